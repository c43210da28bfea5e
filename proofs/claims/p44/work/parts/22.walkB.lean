/-! walks: guests, what they hold -/
theorem n_43 : m_n 43 = 4 := by decide +kernel
theorem F_43_0 : F 43 0 (.iconst 0) 1 := ⟨1, by decide +kernel, rfl, rfl⟩
theorem F_43_1 : F 43 1 (.istore_n 2) 2 := ⟨1, by decide +kernel, rfl, rfl⟩
theorem F_43_2 : F 43 2 (.iconst 0) 3 := ⟨1, by decide +kernel, rfl, rfl⟩
theorem F_43_3 : F 43 3 (.istore_n 3) 4 := ⟨1, by decide +kernel, rfl, rfl⟩
theorem F_43_4 : F 43 4 (.iload_n 3) 5 := ⟨1, by decide +kernel, rfl, rfl⟩
theorem F_43_5 : F 43 5 (.iconst 4) 6 := ⟨1, by decide +kernel, rfl, rfl⟩
theorem F_43_6 : F 43 6 (.if_icmp .ge 28) 9 := ⟨3, by decide +kernel, rfl, rfl⟩
theorem F_43_9 : F 43 9 (.aload_n 0) 10 := ⟨1, by decide +kernel, rfl, rfl⟩
theorem F_43_10 : F 43 10 (.getfield 9) 13 := ⟨3, by decide +kernel, rfl, rfl⟩
theorem fl_0_9 : m_fl.lookup (0, 9) = some (0, 0, 1052) := by decide +kernel
theorem o_43 : m_o 43 = 0 := by decide +kernel
theorem F_43_13 : F 43 13 (.iload_n 3) 14 := ⟨1, by decide +kernel, rfl, rfl⟩
theorem F_43_14 : F 43 14 (.iaload) 15 := ⟨1, by decide +kernel, rfl, rfl⟩
theorem F_43_15 : F 43 15 (.iload_n 1) 16 := ⟨1, by decide +kernel, rfl, rfl⟩
theorem F_43_16 : F 43 16 (.invokestatic 46) 19 := ⟨3, by decide +kernel, rfl, rfl⟩
theorem il_0_46 : ilq 0 46 1 44 1 = true := by decide +kernel
theorem F_43_19 : F 43 19 (.if_icmp .lt 9) 22 := ⟨3, by decide +kernel, rfl, rfl⟩
theorem F_43_28 : F 43 28 (.iinc 3 1) 31 := ⟨3, by decide +kernel, rfl, rfl⟩
theorem F_43_31 : F 43 31 (.goto (-27)) 34 := ⟨3, by decide +kernel, rfl, rfl⟩
theorem F_43_34 : F 43 34 (.iload_n 2) 35 := ⟨1, by decide +kernel, rfl, rfl⟩
theorem F_43_35 : F 43 35 (.ireturn) 36 := ⟨1, by decide +kernel, rfl, rfl⟩
theorem rt_43 : m_r 43 = (some .int) := by decide +kernel
theorem F_43_22 : F 43 22 (.iload_n 2) 23 := ⟨1, by decide +kernel, rfl, rfl⟩
theorem F_43_23 : F 43 23 (.iconst 1) 24 := ⟨1, by decide +kernel, rfl, rfl⟩
theorem F_43_24 : F 43 24 (.iload_n 3) 25 := ⟨1, by decide +kernel, rfl, rfl⟩
theorem F_43_25 : F 43 25 (.ishl) 26 := ⟨1, by decide +kernel, rfl, rfl⟩
theorem bo_ishl_1_3 : iShl 1 3 = 8 := by decide +kernel
theorem F_43_26 : F 43 26 (.ior) 27 := ⟨1, by decide +kernel, rfl, rfl⟩
theorem bo_ior_0_8 : iOr 0 8 = 8 := by decide +kernel
theorem F_43_27 : F 43 27 (.istore_n 2) 28 := ⟨1, by decide +kernel, rfl, rfl⟩
theorem bo_ishl_1_2 : iShl 1 2 = 4 := by decide +kernel
theorem bo_ior_0_4 : iOr 0 4 = 4 := by decide +kernel
theorem bo_ior_4_8 : iOr 4 8 = 12 := by decide +kernel
theorem bo_ishl_1_1 : iShl 1 1 = 2 := by decide +kernel
theorem bo_ior_0_2 : iOr 0 2 = 2 := by decide +kernel
theorem bo_ior_2_8 : iOr 2 8 = 10 := by decide +kernel
theorem bo_ior_2_4 : iOr 2 4 = 6 := by decide +kernel
theorem bo_ior_6_8 : iOr 6 8 = 14 := by decide +kernel
theorem bo_ishl_1_0 : iShl 1 0 = 1 := by decide +kernel
theorem bo_ior_0_1 : iOr 0 1 = 1 := by decide +kernel
theorem bo_ior_1_8 : iOr 1 8 = 9 := by decide +kernel
theorem bo_ior_1_4 : iOr 1 4 = 5 := by decide +kernel
theorem bo_ior_5_8 : iOr 5 8 = 13 := by decide +kernel
theorem bo_ior_1_2 : iOr 1 2 = 3 := by decide +kernel
theorem bo_ior_3_8 : iOr 3 8 = 11 := by decide +kernel
theorem bo_ior_3_4 : iOr 3 4 = 7 := by decide +kernel
theorem bo_ior_7_8 : iOr 7 8 = 15 := by decide +kernel
theorem t_X0_heldAs {X : m_X} {d : Nat} {s : m_St} {P : Option Value → m_St → Prop} {g a : Int} (hg : ty g = 0)
    (l1 : inR a)
    (l2 : inR (s (g + 1) 0))
    (l3 : (s (g + 1) 0) < (hf a) → inR (s (g + 1) 1))
    (l4 : (s (g + 1) 0) < (hf a) → (s (g + 1) 1) < (hf a) → inR (s (g + 1) 2))
    (l5 : (s (g + 1) 0) < (hf a) → (s (g + 1) 1) < (hf a) → (s (g + 1) 2) < (hf a) → inR (s (g + 1) 3))
    (l6 : (s (g + 1) 0) < (hf a) → (s (g + 1) 1) < (hf a) → (s (g + 1) 2) < (hf a) → (s (g + 1) 3) < (hf a) → P (some (vI 0)) s)
    (l7 : (s (g + 1) 0) < (hf a) → (s (g + 1) 1) < (hf a) → (s (g + 1) 2) < (hf a) → (hf a) ≤ (s (g + 1) 3) → P (some (vI 8)) s)
    (l8 : (s (g + 1) 0) < (hf a) → (s (g + 1) 1) < (hf a) → (hf a) ≤ (s (g + 1) 2) → inR (s (g + 1) 3))
    (l9 : (s (g + 1) 0) < (hf a) → (s (g + 1) 1) < (hf a) → (hf a) ≤ (s (g + 1) 2) → (s (g + 1) 3) < (hf a) → P (some (vI 4)) s)
    (l10 : (s (g + 1) 0) < (hf a) → (s (g + 1) 1) < (hf a) → (hf a) ≤ (s (g + 1) 2) → (hf a) ≤ (s (g + 1) 3) → P (some (vI 12)) s)
    (l11 : (s (g + 1) 0) < (hf a) → (hf a) ≤ (s (g + 1) 1) → inR (s (g + 1) 2))
    (l12 : (s (g + 1) 0) < (hf a) → (hf a) ≤ (s (g + 1) 1) → (s (g + 1) 2) < (hf a) → inR (s (g + 1) 3))
    (l13 : (s (g + 1) 0) < (hf a) → (hf a) ≤ (s (g + 1) 1) → (s (g + 1) 2) < (hf a) → (s (g + 1) 3) < (hf a) → P (some (vI 2)) s)
    (l14 : (s (g + 1) 0) < (hf a) → (hf a) ≤ (s (g + 1) 1) → (s (g + 1) 2) < (hf a) → (hf a) ≤ (s (g + 1) 3) → P (some (vI 10)) s)
    (l15 : (s (g + 1) 0) < (hf a) → (hf a) ≤ (s (g + 1) 1) → (hf a) ≤ (s (g + 1) 2) → inR (s (g + 1) 3))
    (l16 : (s (g + 1) 0) < (hf a) → (hf a) ≤ (s (g + 1) 1) → (hf a) ≤ (s (g + 1) 2) → (s (g + 1) 3) < (hf a) → P (some (vI 6)) s)
    (l17 : (s (g + 1) 0) < (hf a) → (hf a) ≤ (s (g + 1) 1) → (hf a) ≤ (s (g + 1) 2) → (hf a) ≤ (s (g + 1) 3) → P (some (vI 14)) s)
    (l18 : (hf a) ≤ (s (g + 1) 0) → inR (s (g + 1) 1))
    (l19 : (hf a) ≤ (s (g + 1) 0) → (s (g + 1) 1) < (hf a) → inR (s (g + 1) 2))
    (l20 : (hf a) ≤ (s (g + 1) 0) → (s (g + 1) 1) < (hf a) → (s (g + 1) 2) < (hf a) → inR (s (g + 1) 3))
    (l21 : (hf a) ≤ (s (g + 1) 0) → (s (g + 1) 1) < (hf a) → (s (g + 1) 2) < (hf a) → (s (g + 1) 3) < (hf a) → P (some (vI 1)) s)
    (l22 : (hf a) ≤ (s (g + 1) 0) → (s (g + 1) 1) < (hf a) → (s (g + 1) 2) < (hf a) → (hf a) ≤ (s (g + 1) 3) → P (some (vI 9)) s)
    (l23 : (hf a) ≤ (s (g + 1) 0) → (s (g + 1) 1) < (hf a) → (hf a) ≤ (s (g + 1) 2) → inR (s (g + 1) 3))
    (l24 : (hf a) ≤ (s (g + 1) 0) → (s (g + 1) 1) < (hf a) → (hf a) ≤ (s (g + 1) 2) → (s (g + 1) 3) < (hf a) → P (some (vI 5)) s)
    (l25 : (hf a) ≤ (s (g + 1) 0) → (s (g + 1) 1) < (hf a) → (hf a) ≤ (s (g + 1) 2) → (hf a) ≤ (s (g + 1) 3) → P (some (vI 13)) s)
    (l26 : (hf a) ≤ (s (g + 1) 0) → (hf a) ≤ (s (g + 1) 1) → inR (s (g + 1) 2))
    (l27 : (hf a) ≤ (s (g + 1) 0) → (hf a) ≤ (s (g + 1) 1) → (s (g + 1) 2) < (hf a) → inR (s (g + 1) 3))
    (l28 : (hf a) ≤ (s (g + 1) 0) → (hf a) ≤ (s (g + 1) 1) → (s (g + 1) 2) < (hf a) → (s (g + 1) 3) < (hf a) → P (some (vI 3)) s)
    (l29 : (hf a) ≤ (s (g + 1) 0) → (hf a) ≤ (s (g + 1) 1) → (s (g + 1) 2) < (hf a) → (hf a) ≤ (s (g + 1) 3) → P (some (vI 11)) s)
    (l30 : (hf a) ≤ (s (g + 1) 0) → (hf a) ≤ (s (g + 1) 1) → (hf a) ≤ (s (g + 1) 2) → inR (s (g + 1) 3))
    (l31 : (hf a) ≤ (s (g + 1) 0) → (hf a) ≤ (s (g + 1) 1) → (hf a) ≤ (s (g + 1) 2) → (s (g + 1) 3) < (hf a) → P (some (vI 7)) s)
    (l32 : (hf a) ≤ (s (g + 1) 0) → (hf a) ≤ (s (g + 1) 1) → (hf a) ≤ (s (g + 1) 2) → (hf a) ≤ (s (g + 1) 3) → P (some (vI 15)) s)
    : Cl X (d + 1) 43 [vR g, vI a] s P := by
  refine Cl_of n_43 rfl ?_
  show Rn _ _ _ _ [some (vR g), some (vI a), none, none] [] _ _
  refine r_iconst F_43_0 ?_
  refine r_stI_n (m := 2) (L' := [some (vR g), some (vI a), some (vI 0), none]) F_43_1 rfl rfl ?_
  refine r_iconst F_43_2 ?_
  refine r_stI_n (m := 3) (L' := [some (vR g), some (vI a), some (vI 0), some (vI 0)]) F_43_3 rfl rfl ?_
  refine r_ldI_n (m := 3) F_43_4 rfl ?_
  refine r_iconst F_43_5 ?_
  refine r_icmpF (t := 34) F_43_6 rfl (by decide) (by decide) (by show ¬ ((4 : Int) ≤ 0); decide) ?_
  refine r_ldR_n (m := 0) F_43_9 rfl ?_
  refine r_getR (J := 0) F_43_10 o_43 fl_0_9 hg (by decide) rfl (gw2 hg).1 (gw2 hg).2 (gw hg).2.2.2.2.2.2.1 ?_
  refine r_ldI_n (m := 3) F_43_13 rfl ?_
  refine r_iald (e := (s (g + 1) 0)) F_43_14 (gw hg).2.2.2.2.1 (by decide) (lt_ln (gw hg).2.2.2.2.2.1 (by decide)) rfl ?_
  refine r_ldI_n (m := 1) F_43_15 rfl ?_
  refine r_stat2 (A := [vI a]) (r := [vI (s (g + 1) 0)]) (n := 1) F_43_16 o_43 il_0_46 (by decide) rfl rfl rfl rfl (lay_le n_44 rfl) ?_
  refine sp_holdsFrom l1 ?_
  show Rn _ _ _ _ _ [vI (hf a), vI (s (g + 1) 0)] _ _
  refine r_icmp (t := 28) F_43_19 rfl l2 (inR_hf _) ?_ ?_
  · intro e1
    replace e1 : (s (g + 1) 0) < (hf a) := e1
    refine r_iinc (m := 3) (e := 1) (L' := [some (vR g), some (vI a), some (vI 0), some (vI 1)]) F_43_28 rfl rfl rfl rfl ?_
    refine r_goto (t := 4) F_43_31 rfl ?_
    refine r_ldI_n (m := 3) F_43_4 rfl ?_
    refine r_iconst F_43_5 ?_
    refine r_icmpF (t := 34) F_43_6 rfl (by decide) (by decide) (by show ¬ ((4 : Int) ≤ 1); decide) ?_
    refine r_ldR_n (m := 0) F_43_9 rfl ?_
    refine r_getR (J := 0) F_43_10 o_43 fl_0_9 hg (by decide) rfl (gw2 hg).1 (gw2 hg).2 (gw hg).2.2.2.2.2.2.1 ?_
    refine r_ldI_n (m := 3) F_43_13 rfl ?_
    refine r_iald (e := (s (g + 1) 1)) F_43_14 (gw hg).2.2.2.2.1 (by decide) (lt_ln (gw hg).2.2.2.2.2.1 (by decide)) rfl ?_
    refine r_ldI_n (m := 1) F_43_15 rfl ?_
    refine r_stat2 (A := [vI a]) (r := [vI (s (g + 1) 1)]) (n := 1) F_43_16 o_43 il_0_46 (by decide) rfl rfl rfl rfl (lay_le n_44 rfl) ?_
    refine sp_holdsFrom l1 ?_
    show Rn _ _ _ _ _ [vI (hf a), vI (s (g + 1) 1)] _ _
    refine r_icmp (t := 28) F_43_19 rfl (l3 e1) (inR_hf _) ?_ ?_
    · intro e2
      replace e2 : (s (g + 1) 1) < (hf a) := e2
      refine r_iinc (m := 3) (e := 2) (L' := [some (vR g), some (vI a), some (vI 0), some (vI 2)]) F_43_28 rfl rfl rfl rfl ?_
      refine r_goto (t := 4) F_43_31 rfl ?_
      refine r_ldI_n (m := 3) F_43_4 rfl ?_
      refine r_iconst F_43_5 ?_
      refine r_icmpF (t := 34) F_43_6 rfl (by decide) (by decide) (by show ¬ ((4 : Int) ≤ 2); decide) ?_
      refine r_ldR_n (m := 0) F_43_9 rfl ?_
      refine r_getR (J := 0) F_43_10 o_43 fl_0_9 hg (by decide) rfl (gw2 hg).1 (gw2 hg).2 (gw hg).2.2.2.2.2.2.1 ?_
      refine r_ldI_n (m := 3) F_43_13 rfl ?_
      refine r_iald (e := (s (g + 1) 2)) F_43_14 (gw hg).2.2.2.2.1 (by decide) (lt_ln (gw hg).2.2.2.2.2.1 (by decide)) rfl ?_
      refine r_ldI_n (m := 1) F_43_15 rfl ?_
      refine r_stat2 (A := [vI a]) (r := [vI (s (g + 1) 2)]) (n := 1) F_43_16 o_43 il_0_46 (by decide) rfl rfl rfl rfl (lay_le n_44 rfl) ?_
      refine sp_holdsFrom l1 ?_
      show Rn _ _ _ _ _ [vI (hf a), vI (s (g + 1) 2)] _ _
      refine r_icmp (t := 28) F_43_19 rfl (l4 e1 e2) (inR_hf _) ?_ ?_
      · intro e3
        replace e3 : (s (g + 1) 2) < (hf a) := e3
        refine r_iinc (m := 3) (e := 3) (L' := [some (vR g), some (vI a), some (vI 0), some (vI 3)]) F_43_28 rfl rfl rfl rfl ?_
        refine r_goto (t := 4) F_43_31 rfl ?_
        refine r_ldI_n (m := 3) F_43_4 rfl ?_
        refine r_iconst F_43_5 ?_
        refine r_icmpF (t := 34) F_43_6 rfl (by decide) (by decide) (by show ¬ ((4 : Int) ≤ 3); decide) ?_
        refine r_ldR_n (m := 0) F_43_9 rfl ?_
        refine r_getR (J := 0) F_43_10 o_43 fl_0_9 hg (by decide) rfl (gw2 hg).1 (gw2 hg).2 (gw hg).2.2.2.2.2.2.1 ?_
        refine r_ldI_n (m := 3) F_43_13 rfl ?_
        refine r_iald (e := (s (g + 1) 3)) F_43_14 (gw hg).2.2.2.2.1 (by decide) (lt_ln (gw hg).2.2.2.2.2.1 (by decide)) rfl ?_
        refine r_ldI_n (m := 1) F_43_15 rfl ?_
        refine r_stat2 (A := [vI a]) (r := [vI (s (g + 1) 3)]) (n := 1) F_43_16 o_43 il_0_46 (by decide) rfl rfl rfl rfl (lay_le n_44 rfl) ?_
        refine sp_holdsFrom l1 ?_
        show Rn _ _ _ _ _ [vI (hf a), vI (s (g + 1) 3)] _ _
        refine r_icmp (t := 28) F_43_19 rfl (l5 e1 e2 e3) (inR_hf _) ?_ ?_
        · intro e4
          replace e4 : (s (g + 1) 3) < (hf a) := e4
          refine r_iinc (m := 3) (e := 4) (L' := [some (vR g), some (vI a), some (vI 0), some (vI 4)]) F_43_28 rfl rfl rfl rfl ?_
          refine r_goto (t := 4) F_43_31 rfl ?_
          refine r_ldI_n (m := 3) F_43_4 rfl ?_
          refine r_iconst F_43_5 ?_
          refine r_icmpT (t := 34) F_43_6 rfl (by decide) (by decide) (by show (4 : Int) ≤ 4; decide) ?_
          refine r_ldI_n (m := 2) F_43_34 rfl ?_
          refine r_ireturn F_43_35 rt_43 ?_
          exact (l6 e1 e2 e3 e4)
        · intro e5
          replace e5 : (hf a) ≤ (s (g + 1) 3) := (Int.not_lt.mp e5)
          refine r_ldI_n (m := 2) F_43_22 rfl ?_
          refine r_iconst F_43_23 ?_
          refine r_ldI_n (m := 3) F_43_24 rfl ?_
          refine r_ishl (e := 8) F_43_25 bo_ishl_1_3 ?_
          refine r_ior (e := 8) F_43_26 bo_ior_0_8 ?_
          refine r_stI_n (m := 2) (L' := [some (vR g), some (vI a), some (vI 8), some (vI 3)]) F_43_27 rfl rfl ?_
          refine r_iinc (m := 3) (e := 4) (L' := [some (vR g), some (vI a), some (vI 8), some (vI 4)]) F_43_28 rfl rfl rfl rfl ?_
          refine r_goto (t := 4) F_43_31 rfl ?_
          refine r_ldI_n (m := 3) F_43_4 rfl ?_
          refine r_iconst F_43_5 ?_
          refine r_icmpT (t := 34) F_43_6 rfl (by decide) (by decide) (by show (4 : Int) ≤ 4; decide) ?_
          refine r_ldI_n (m := 2) F_43_34 rfl ?_
          refine r_ireturn F_43_35 rt_43 ?_
          exact (l7 e1 e2 e3 e5)
      · intro e6
        replace e6 : (hf a) ≤ (s (g + 1) 2) := (Int.not_lt.mp e6)
        refine r_ldI_n (m := 2) F_43_22 rfl ?_
        refine r_iconst F_43_23 ?_
        refine r_ldI_n (m := 3) F_43_24 rfl ?_
        refine r_ishl (e := 4) F_43_25 bo_ishl_1_2 ?_
        refine r_ior (e := 4) F_43_26 bo_ior_0_4 ?_
        refine r_stI_n (m := 2) (L' := [some (vR g), some (vI a), some (vI 4), some (vI 2)]) F_43_27 rfl rfl ?_
        refine r_iinc (m := 3) (e := 3) (L' := [some (vR g), some (vI a), some (vI 4), some (vI 3)]) F_43_28 rfl rfl rfl rfl ?_
        refine r_goto (t := 4) F_43_31 rfl ?_
        refine r_ldI_n (m := 3) F_43_4 rfl ?_
        refine r_iconst F_43_5 ?_
        refine r_icmpF (t := 34) F_43_6 rfl (by decide) (by decide) (by show ¬ ((4 : Int) ≤ 3); decide) ?_
        refine r_ldR_n (m := 0) F_43_9 rfl ?_
        refine r_getR (J := 0) F_43_10 o_43 fl_0_9 hg (by decide) rfl (gw2 hg).1 (gw2 hg).2 (gw hg).2.2.2.2.2.2.1 ?_
        refine r_ldI_n (m := 3) F_43_13 rfl ?_
        refine r_iald (e := (s (g + 1) 3)) F_43_14 (gw hg).2.2.2.2.1 (by decide) (lt_ln (gw hg).2.2.2.2.2.1 (by decide)) rfl ?_
        refine r_ldI_n (m := 1) F_43_15 rfl ?_
        refine r_stat2 (A := [vI a]) (r := [vI (s (g + 1) 3)]) (n := 1) F_43_16 o_43 il_0_46 (by decide) rfl rfl rfl rfl (lay_le n_44 rfl) ?_
        refine sp_holdsFrom l1 ?_
        show Rn _ _ _ _ _ [vI (hf a), vI (s (g + 1) 3)] _ _
        refine r_icmp (t := 28) F_43_19 rfl (l8 e1 e2 e6) (inR_hf _) ?_ ?_
        · intro e7
          replace e7 : (s (g + 1) 3) < (hf a) := e7
          refine r_iinc (m := 3) (e := 4) (L' := [some (vR g), some (vI a), some (vI 4), some (vI 4)]) F_43_28 rfl rfl rfl rfl ?_
          refine r_goto (t := 4) F_43_31 rfl ?_
          refine r_ldI_n (m := 3) F_43_4 rfl ?_
          refine r_iconst F_43_5 ?_
          refine r_icmpT (t := 34) F_43_6 rfl (by decide) (by decide) (by show (4 : Int) ≤ 4; decide) ?_
          refine r_ldI_n (m := 2) F_43_34 rfl ?_
          refine r_ireturn F_43_35 rt_43 ?_
          exact (l9 e1 e2 e6 e7)
        · intro e8
          replace e8 : (hf a) ≤ (s (g + 1) 3) := (Int.not_lt.mp e8)
          refine r_ldI_n (m := 2) F_43_22 rfl ?_
          refine r_iconst F_43_23 ?_
          refine r_ldI_n (m := 3) F_43_24 rfl ?_
          refine r_ishl (e := 8) F_43_25 bo_ishl_1_3 ?_
          refine r_ior (e := 12) F_43_26 bo_ior_4_8 ?_
          refine r_stI_n (m := 2) (L' := [some (vR g), some (vI a), some (vI 12), some (vI 3)]) F_43_27 rfl rfl ?_
          refine r_iinc (m := 3) (e := 4) (L' := [some (vR g), some (vI a), some (vI 12), some (vI 4)]) F_43_28 rfl rfl rfl rfl ?_
          refine r_goto (t := 4) F_43_31 rfl ?_
          refine r_ldI_n (m := 3) F_43_4 rfl ?_
          refine r_iconst F_43_5 ?_
          refine r_icmpT (t := 34) F_43_6 rfl (by decide) (by decide) (by show (4 : Int) ≤ 4; decide) ?_
          refine r_ldI_n (m := 2) F_43_34 rfl ?_
          refine r_ireturn F_43_35 rt_43 ?_
          exact (l10 e1 e2 e6 e8)
    · intro e9
      replace e9 : (hf a) ≤ (s (g + 1) 1) := (Int.not_lt.mp e9)
      refine r_ldI_n (m := 2) F_43_22 rfl ?_
      refine r_iconst F_43_23 ?_
      refine r_ldI_n (m := 3) F_43_24 rfl ?_
      refine r_ishl (e := 2) F_43_25 bo_ishl_1_1 ?_
      refine r_ior (e := 2) F_43_26 bo_ior_0_2 ?_
      refine r_stI_n (m := 2) (L' := [some (vR g), some (vI a), some (vI 2), some (vI 1)]) F_43_27 rfl rfl ?_
      refine r_iinc (m := 3) (e := 2) (L' := [some (vR g), some (vI a), some (vI 2), some (vI 2)]) F_43_28 rfl rfl rfl rfl ?_
      refine r_goto (t := 4) F_43_31 rfl ?_
      refine r_ldI_n (m := 3) F_43_4 rfl ?_
      refine r_iconst F_43_5 ?_
      refine r_icmpF (t := 34) F_43_6 rfl (by decide) (by decide) (by show ¬ ((4 : Int) ≤ 2); decide) ?_
      refine r_ldR_n (m := 0) F_43_9 rfl ?_
      refine r_getR (J := 0) F_43_10 o_43 fl_0_9 hg (by decide) rfl (gw2 hg).1 (gw2 hg).2 (gw hg).2.2.2.2.2.2.1 ?_
      refine r_ldI_n (m := 3) F_43_13 rfl ?_
      refine r_iald (e := (s (g + 1) 2)) F_43_14 (gw hg).2.2.2.2.1 (by decide) (lt_ln (gw hg).2.2.2.2.2.1 (by decide)) rfl ?_
      refine r_ldI_n (m := 1) F_43_15 rfl ?_
      refine r_stat2 (A := [vI a]) (r := [vI (s (g + 1) 2)]) (n := 1) F_43_16 o_43 il_0_46 (by decide) rfl rfl rfl rfl (lay_le n_44 rfl) ?_
      refine sp_holdsFrom l1 ?_
      show Rn _ _ _ _ _ [vI (hf a), vI (s (g + 1) 2)] _ _
      refine r_icmp (t := 28) F_43_19 rfl (l11 e1 e9) (inR_hf _) ?_ ?_
      · intro e10
        replace e10 : (s (g + 1) 2) < (hf a) := e10
        refine r_iinc (m := 3) (e := 3) (L' := [some (vR g), some (vI a), some (vI 2), some (vI 3)]) F_43_28 rfl rfl rfl rfl ?_
        refine r_goto (t := 4) F_43_31 rfl ?_
        refine r_ldI_n (m := 3) F_43_4 rfl ?_
        refine r_iconst F_43_5 ?_
        refine r_icmpF (t := 34) F_43_6 rfl (by decide) (by decide) (by show ¬ ((4 : Int) ≤ 3); decide) ?_
        refine r_ldR_n (m := 0) F_43_9 rfl ?_
        refine r_getR (J := 0) F_43_10 o_43 fl_0_9 hg (by decide) rfl (gw2 hg).1 (gw2 hg).2 (gw hg).2.2.2.2.2.2.1 ?_
        refine r_ldI_n (m := 3) F_43_13 rfl ?_
        refine r_iald (e := (s (g + 1) 3)) F_43_14 (gw hg).2.2.2.2.1 (by decide) (lt_ln (gw hg).2.2.2.2.2.1 (by decide)) rfl ?_
        refine r_ldI_n (m := 1) F_43_15 rfl ?_
        refine r_stat2 (A := [vI a]) (r := [vI (s (g + 1) 3)]) (n := 1) F_43_16 o_43 il_0_46 (by decide) rfl rfl rfl rfl (lay_le n_44 rfl) ?_
        refine sp_holdsFrom l1 ?_
        show Rn _ _ _ _ _ [vI (hf a), vI (s (g + 1) 3)] _ _
        refine r_icmp (t := 28) F_43_19 rfl (l12 e1 e9 e10) (inR_hf _) ?_ ?_
        · intro e11
          replace e11 : (s (g + 1) 3) < (hf a) := e11
          refine r_iinc (m := 3) (e := 4) (L' := [some (vR g), some (vI a), some (vI 2), some (vI 4)]) F_43_28 rfl rfl rfl rfl ?_
          refine r_goto (t := 4) F_43_31 rfl ?_
          refine r_ldI_n (m := 3) F_43_4 rfl ?_
          refine r_iconst F_43_5 ?_
          refine r_icmpT (t := 34) F_43_6 rfl (by decide) (by decide) (by show (4 : Int) ≤ 4; decide) ?_
          refine r_ldI_n (m := 2) F_43_34 rfl ?_
          refine r_ireturn F_43_35 rt_43 ?_
          exact (l13 e1 e9 e10 e11)
        · intro e12
          replace e12 : (hf a) ≤ (s (g + 1) 3) := (Int.not_lt.mp e12)
          refine r_ldI_n (m := 2) F_43_22 rfl ?_
          refine r_iconst F_43_23 ?_
          refine r_ldI_n (m := 3) F_43_24 rfl ?_
          refine r_ishl (e := 8) F_43_25 bo_ishl_1_3 ?_
          refine r_ior (e := 10) F_43_26 bo_ior_2_8 ?_
          refine r_stI_n (m := 2) (L' := [some (vR g), some (vI a), some (vI 10), some (vI 3)]) F_43_27 rfl rfl ?_
          refine r_iinc (m := 3) (e := 4) (L' := [some (vR g), some (vI a), some (vI 10), some (vI 4)]) F_43_28 rfl rfl rfl rfl ?_
          refine r_goto (t := 4) F_43_31 rfl ?_
          refine r_ldI_n (m := 3) F_43_4 rfl ?_
          refine r_iconst F_43_5 ?_
          refine r_icmpT (t := 34) F_43_6 rfl (by decide) (by decide) (by show (4 : Int) ≤ 4; decide) ?_
          refine r_ldI_n (m := 2) F_43_34 rfl ?_
          refine r_ireturn F_43_35 rt_43 ?_
          exact (l14 e1 e9 e10 e12)
      · intro e13
        replace e13 : (hf a) ≤ (s (g + 1) 2) := (Int.not_lt.mp e13)
        refine r_ldI_n (m := 2) F_43_22 rfl ?_
        refine r_iconst F_43_23 ?_
        refine r_ldI_n (m := 3) F_43_24 rfl ?_
        refine r_ishl (e := 4) F_43_25 bo_ishl_1_2 ?_
        refine r_ior (e := 6) F_43_26 bo_ior_2_4 ?_
        refine r_stI_n (m := 2) (L' := [some (vR g), some (vI a), some (vI 6), some (vI 2)]) F_43_27 rfl rfl ?_
        refine r_iinc (m := 3) (e := 3) (L' := [some (vR g), some (vI a), some (vI 6), some (vI 3)]) F_43_28 rfl rfl rfl rfl ?_
        refine r_goto (t := 4) F_43_31 rfl ?_
        refine r_ldI_n (m := 3) F_43_4 rfl ?_
        refine r_iconst F_43_5 ?_
        refine r_icmpF (t := 34) F_43_6 rfl (by decide) (by decide) (by show ¬ ((4 : Int) ≤ 3); decide) ?_
        refine r_ldR_n (m := 0) F_43_9 rfl ?_
        refine r_getR (J := 0) F_43_10 o_43 fl_0_9 hg (by decide) rfl (gw2 hg).1 (gw2 hg).2 (gw hg).2.2.2.2.2.2.1 ?_
        refine r_ldI_n (m := 3) F_43_13 rfl ?_
        refine r_iald (e := (s (g + 1) 3)) F_43_14 (gw hg).2.2.2.2.1 (by decide) (lt_ln (gw hg).2.2.2.2.2.1 (by decide)) rfl ?_
        refine r_ldI_n (m := 1) F_43_15 rfl ?_
        refine r_stat2 (A := [vI a]) (r := [vI (s (g + 1) 3)]) (n := 1) F_43_16 o_43 il_0_46 (by decide) rfl rfl rfl rfl (lay_le n_44 rfl) ?_
        refine sp_holdsFrom l1 ?_
        show Rn _ _ _ _ _ [vI (hf a), vI (s (g + 1) 3)] _ _
        refine r_icmp (t := 28) F_43_19 rfl (l15 e1 e9 e13) (inR_hf _) ?_ ?_
        · intro e14
          replace e14 : (s (g + 1) 3) < (hf a) := e14
          refine r_iinc (m := 3) (e := 4) (L' := [some (vR g), some (vI a), some (vI 6), some (vI 4)]) F_43_28 rfl rfl rfl rfl ?_
          refine r_goto (t := 4) F_43_31 rfl ?_
          refine r_ldI_n (m := 3) F_43_4 rfl ?_
          refine r_iconst F_43_5 ?_
          refine r_icmpT (t := 34) F_43_6 rfl (by decide) (by decide) (by show (4 : Int) ≤ 4; decide) ?_
          refine r_ldI_n (m := 2) F_43_34 rfl ?_
          refine r_ireturn F_43_35 rt_43 ?_
          exact (l16 e1 e9 e13 e14)
        · intro e15
          replace e15 : (hf a) ≤ (s (g + 1) 3) := (Int.not_lt.mp e15)
          refine r_ldI_n (m := 2) F_43_22 rfl ?_
          refine r_iconst F_43_23 ?_
          refine r_ldI_n (m := 3) F_43_24 rfl ?_
          refine r_ishl (e := 8) F_43_25 bo_ishl_1_3 ?_
          refine r_ior (e := 14) F_43_26 bo_ior_6_8 ?_
          refine r_stI_n (m := 2) (L' := [some (vR g), some (vI a), some (vI 14), some (vI 3)]) F_43_27 rfl rfl ?_
          refine r_iinc (m := 3) (e := 4) (L' := [some (vR g), some (vI a), some (vI 14), some (vI 4)]) F_43_28 rfl rfl rfl rfl ?_
          refine r_goto (t := 4) F_43_31 rfl ?_
          refine r_ldI_n (m := 3) F_43_4 rfl ?_
          refine r_iconst F_43_5 ?_
          refine r_icmpT (t := 34) F_43_6 rfl (by decide) (by decide) (by show (4 : Int) ≤ 4; decide) ?_
          refine r_ldI_n (m := 2) F_43_34 rfl ?_
          refine r_ireturn F_43_35 rt_43 ?_
          exact (l17 e1 e9 e13 e15)
  · intro e16
    replace e16 : (hf a) ≤ (s (g + 1) 0) := (Int.not_lt.mp e16)
    refine r_ldI_n (m := 2) F_43_22 rfl ?_
    refine r_iconst F_43_23 ?_
    refine r_ldI_n (m := 3) F_43_24 rfl ?_
    refine r_ishl (e := 1) F_43_25 bo_ishl_1_0 ?_
    refine r_ior (e := 1) F_43_26 bo_ior_0_1 ?_
    refine r_stI_n (m := 2) (L' := [some (vR g), some (vI a), some (vI 1), some (vI 0)]) F_43_27 rfl rfl ?_
    refine r_iinc (m := 3) (e := 1) (L' := [some (vR g), some (vI a), some (vI 1), some (vI 1)]) F_43_28 rfl rfl rfl rfl ?_
    refine r_goto (t := 4) F_43_31 rfl ?_
    refine r_ldI_n (m := 3) F_43_4 rfl ?_
    refine r_iconst F_43_5 ?_
    refine r_icmpF (t := 34) F_43_6 rfl (by decide) (by decide) (by show ¬ ((4 : Int) ≤ 1); decide) ?_
    refine r_ldR_n (m := 0) F_43_9 rfl ?_
    refine r_getR (J := 0) F_43_10 o_43 fl_0_9 hg (by decide) rfl (gw2 hg).1 (gw2 hg).2 (gw hg).2.2.2.2.2.2.1 ?_
    refine r_ldI_n (m := 3) F_43_13 rfl ?_
    refine r_iald (e := (s (g + 1) 1)) F_43_14 (gw hg).2.2.2.2.1 (by decide) (lt_ln (gw hg).2.2.2.2.2.1 (by decide)) rfl ?_
    refine r_ldI_n (m := 1) F_43_15 rfl ?_
    refine r_stat2 (A := [vI a]) (r := [vI (s (g + 1) 1)]) (n := 1) F_43_16 o_43 il_0_46 (by decide) rfl rfl rfl rfl (lay_le n_44 rfl) ?_
    refine sp_holdsFrom l1 ?_
    show Rn _ _ _ _ _ [vI (hf a), vI (s (g + 1) 1)] _ _
    refine r_icmp (t := 28) F_43_19 rfl (l18 e16) (inR_hf _) ?_ ?_
    · intro e17
      replace e17 : (s (g + 1) 1) < (hf a) := e17
      refine r_iinc (m := 3) (e := 2) (L' := [some (vR g), some (vI a), some (vI 1), some (vI 2)]) F_43_28 rfl rfl rfl rfl ?_
      refine r_goto (t := 4) F_43_31 rfl ?_
      refine r_ldI_n (m := 3) F_43_4 rfl ?_
      refine r_iconst F_43_5 ?_
      refine r_icmpF (t := 34) F_43_6 rfl (by decide) (by decide) (by show ¬ ((4 : Int) ≤ 2); decide) ?_
      refine r_ldR_n (m := 0) F_43_9 rfl ?_
      refine r_getR (J := 0) F_43_10 o_43 fl_0_9 hg (by decide) rfl (gw2 hg).1 (gw2 hg).2 (gw hg).2.2.2.2.2.2.1 ?_
      refine r_ldI_n (m := 3) F_43_13 rfl ?_
      refine r_iald (e := (s (g + 1) 2)) F_43_14 (gw hg).2.2.2.2.1 (by decide) (lt_ln (gw hg).2.2.2.2.2.1 (by decide)) rfl ?_
      refine r_ldI_n (m := 1) F_43_15 rfl ?_
      refine r_stat2 (A := [vI a]) (r := [vI (s (g + 1) 2)]) (n := 1) F_43_16 o_43 il_0_46 (by decide) rfl rfl rfl rfl (lay_le n_44 rfl) ?_
      refine sp_holdsFrom l1 ?_
      show Rn _ _ _ _ _ [vI (hf a), vI (s (g + 1) 2)] _ _
      refine r_icmp (t := 28) F_43_19 rfl (l19 e16 e17) (inR_hf _) ?_ ?_
      · intro e18
        replace e18 : (s (g + 1) 2) < (hf a) := e18
        refine r_iinc (m := 3) (e := 3) (L' := [some (vR g), some (vI a), some (vI 1), some (vI 3)]) F_43_28 rfl rfl rfl rfl ?_
        refine r_goto (t := 4) F_43_31 rfl ?_
        refine r_ldI_n (m := 3) F_43_4 rfl ?_
        refine r_iconst F_43_5 ?_
        refine r_icmpF (t := 34) F_43_6 rfl (by decide) (by decide) (by show ¬ ((4 : Int) ≤ 3); decide) ?_
        refine r_ldR_n (m := 0) F_43_9 rfl ?_
        refine r_getR (J := 0) F_43_10 o_43 fl_0_9 hg (by decide) rfl (gw2 hg).1 (gw2 hg).2 (gw hg).2.2.2.2.2.2.1 ?_
        refine r_ldI_n (m := 3) F_43_13 rfl ?_
        refine r_iald (e := (s (g + 1) 3)) F_43_14 (gw hg).2.2.2.2.1 (by decide) (lt_ln (gw hg).2.2.2.2.2.1 (by decide)) rfl ?_
        refine r_ldI_n (m := 1) F_43_15 rfl ?_
        refine r_stat2 (A := [vI a]) (r := [vI (s (g + 1) 3)]) (n := 1) F_43_16 o_43 il_0_46 (by decide) rfl rfl rfl rfl (lay_le n_44 rfl) ?_
        refine sp_holdsFrom l1 ?_
        show Rn _ _ _ _ _ [vI (hf a), vI (s (g + 1) 3)] _ _
        refine r_icmp (t := 28) F_43_19 rfl (l20 e16 e17 e18) (inR_hf _) ?_ ?_
        · intro e19
          replace e19 : (s (g + 1) 3) < (hf a) := e19
          refine r_iinc (m := 3) (e := 4) (L' := [some (vR g), some (vI a), some (vI 1), some (vI 4)]) F_43_28 rfl rfl rfl rfl ?_
          refine r_goto (t := 4) F_43_31 rfl ?_
          refine r_ldI_n (m := 3) F_43_4 rfl ?_
          refine r_iconst F_43_5 ?_
          refine r_icmpT (t := 34) F_43_6 rfl (by decide) (by decide) (by show (4 : Int) ≤ 4; decide) ?_
          refine r_ldI_n (m := 2) F_43_34 rfl ?_
          refine r_ireturn F_43_35 rt_43 ?_
          exact (l21 e16 e17 e18 e19)
        · intro e20
          replace e20 : (hf a) ≤ (s (g + 1) 3) := (Int.not_lt.mp e20)
          refine r_ldI_n (m := 2) F_43_22 rfl ?_
          refine r_iconst F_43_23 ?_
          refine r_ldI_n (m := 3) F_43_24 rfl ?_
          refine r_ishl (e := 8) F_43_25 bo_ishl_1_3 ?_
          refine r_ior (e := 9) F_43_26 bo_ior_1_8 ?_
          refine r_stI_n (m := 2) (L' := [some (vR g), some (vI a), some (vI 9), some (vI 3)]) F_43_27 rfl rfl ?_
          refine r_iinc (m := 3) (e := 4) (L' := [some (vR g), some (vI a), some (vI 9), some (vI 4)]) F_43_28 rfl rfl rfl rfl ?_
          refine r_goto (t := 4) F_43_31 rfl ?_
          refine r_ldI_n (m := 3) F_43_4 rfl ?_
          refine r_iconst F_43_5 ?_
          refine r_icmpT (t := 34) F_43_6 rfl (by decide) (by decide) (by show (4 : Int) ≤ 4; decide) ?_
          refine r_ldI_n (m := 2) F_43_34 rfl ?_
          refine r_ireturn F_43_35 rt_43 ?_
          exact (l22 e16 e17 e18 e20)
      · intro e21
        replace e21 : (hf a) ≤ (s (g + 1) 2) := (Int.not_lt.mp e21)
        refine r_ldI_n (m := 2) F_43_22 rfl ?_
        refine r_iconst F_43_23 ?_
        refine r_ldI_n (m := 3) F_43_24 rfl ?_
        refine r_ishl (e := 4) F_43_25 bo_ishl_1_2 ?_
        refine r_ior (e := 5) F_43_26 bo_ior_1_4 ?_
        refine r_stI_n (m := 2) (L' := [some (vR g), some (vI a), some (vI 5), some (vI 2)]) F_43_27 rfl rfl ?_
        refine r_iinc (m := 3) (e := 3) (L' := [some (vR g), some (vI a), some (vI 5), some (vI 3)]) F_43_28 rfl rfl rfl rfl ?_
        refine r_goto (t := 4) F_43_31 rfl ?_
        refine r_ldI_n (m := 3) F_43_4 rfl ?_
        refine r_iconst F_43_5 ?_
        refine r_icmpF (t := 34) F_43_6 rfl (by decide) (by decide) (by show ¬ ((4 : Int) ≤ 3); decide) ?_
        refine r_ldR_n (m := 0) F_43_9 rfl ?_
        refine r_getR (J := 0) F_43_10 o_43 fl_0_9 hg (by decide) rfl (gw2 hg).1 (gw2 hg).2 (gw hg).2.2.2.2.2.2.1 ?_
        refine r_ldI_n (m := 3) F_43_13 rfl ?_
        refine r_iald (e := (s (g + 1) 3)) F_43_14 (gw hg).2.2.2.2.1 (by decide) (lt_ln (gw hg).2.2.2.2.2.1 (by decide)) rfl ?_
        refine r_ldI_n (m := 1) F_43_15 rfl ?_
        refine r_stat2 (A := [vI a]) (r := [vI (s (g + 1) 3)]) (n := 1) F_43_16 o_43 il_0_46 (by decide) rfl rfl rfl rfl (lay_le n_44 rfl) ?_
        refine sp_holdsFrom l1 ?_
        show Rn _ _ _ _ _ [vI (hf a), vI (s (g + 1) 3)] _ _
        refine r_icmp (t := 28) F_43_19 rfl (l23 e16 e17 e21) (inR_hf _) ?_ ?_
        · intro e22
          replace e22 : (s (g + 1) 3) < (hf a) := e22
          refine r_iinc (m := 3) (e := 4) (L' := [some (vR g), some (vI a), some (vI 5), some (vI 4)]) F_43_28 rfl rfl rfl rfl ?_
          refine r_goto (t := 4) F_43_31 rfl ?_
          refine r_ldI_n (m := 3) F_43_4 rfl ?_
          refine r_iconst F_43_5 ?_
          refine r_icmpT (t := 34) F_43_6 rfl (by decide) (by decide) (by show (4 : Int) ≤ 4; decide) ?_
          refine r_ldI_n (m := 2) F_43_34 rfl ?_
          refine r_ireturn F_43_35 rt_43 ?_
          exact (l24 e16 e17 e21 e22)
        · intro e23
          replace e23 : (hf a) ≤ (s (g + 1) 3) := (Int.not_lt.mp e23)
          refine r_ldI_n (m := 2) F_43_22 rfl ?_
          refine r_iconst F_43_23 ?_
          refine r_ldI_n (m := 3) F_43_24 rfl ?_
          refine r_ishl (e := 8) F_43_25 bo_ishl_1_3 ?_
          refine r_ior (e := 13) F_43_26 bo_ior_5_8 ?_
          refine r_stI_n (m := 2) (L' := [some (vR g), some (vI a), some (vI 13), some (vI 3)]) F_43_27 rfl rfl ?_
          refine r_iinc (m := 3) (e := 4) (L' := [some (vR g), some (vI a), some (vI 13), some (vI 4)]) F_43_28 rfl rfl rfl rfl ?_
          refine r_goto (t := 4) F_43_31 rfl ?_
          refine r_ldI_n (m := 3) F_43_4 rfl ?_
          refine r_iconst F_43_5 ?_
          refine r_icmpT (t := 34) F_43_6 rfl (by decide) (by decide) (by show (4 : Int) ≤ 4; decide) ?_
          refine r_ldI_n (m := 2) F_43_34 rfl ?_
          refine r_ireturn F_43_35 rt_43 ?_
          exact (l25 e16 e17 e21 e23)
    · intro e24
      replace e24 : (hf a) ≤ (s (g + 1) 1) := (Int.not_lt.mp e24)
      refine r_ldI_n (m := 2) F_43_22 rfl ?_
      refine r_iconst F_43_23 ?_
      refine r_ldI_n (m := 3) F_43_24 rfl ?_
      refine r_ishl (e := 2) F_43_25 bo_ishl_1_1 ?_
      refine r_ior (e := 3) F_43_26 bo_ior_1_2 ?_
      refine r_stI_n (m := 2) (L' := [some (vR g), some (vI a), some (vI 3), some (vI 1)]) F_43_27 rfl rfl ?_
      refine r_iinc (m := 3) (e := 2) (L' := [some (vR g), some (vI a), some (vI 3), some (vI 2)]) F_43_28 rfl rfl rfl rfl ?_
      refine r_goto (t := 4) F_43_31 rfl ?_
      refine r_ldI_n (m := 3) F_43_4 rfl ?_
      refine r_iconst F_43_5 ?_
      refine r_icmpF (t := 34) F_43_6 rfl (by decide) (by decide) (by show ¬ ((4 : Int) ≤ 2); decide) ?_
      refine r_ldR_n (m := 0) F_43_9 rfl ?_
      refine r_getR (J := 0) F_43_10 o_43 fl_0_9 hg (by decide) rfl (gw2 hg).1 (gw2 hg).2 (gw hg).2.2.2.2.2.2.1 ?_
      refine r_ldI_n (m := 3) F_43_13 rfl ?_
      refine r_iald (e := (s (g + 1) 2)) F_43_14 (gw hg).2.2.2.2.1 (by decide) (lt_ln (gw hg).2.2.2.2.2.1 (by decide)) rfl ?_
      refine r_ldI_n (m := 1) F_43_15 rfl ?_
      refine r_stat2 (A := [vI a]) (r := [vI (s (g + 1) 2)]) (n := 1) F_43_16 o_43 il_0_46 (by decide) rfl rfl rfl rfl (lay_le n_44 rfl) ?_
      refine sp_holdsFrom l1 ?_
      show Rn _ _ _ _ _ [vI (hf a), vI (s (g + 1) 2)] _ _
      refine r_icmp (t := 28) F_43_19 rfl (l26 e16 e24) (inR_hf _) ?_ ?_
      · intro e25
        replace e25 : (s (g + 1) 2) < (hf a) := e25
        refine r_iinc (m := 3) (e := 3) (L' := [some (vR g), some (vI a), some (vI 3), some (vI 3)]) F_43_28 rfl rfl rfl rfl ?_
        refine r_goto (t := 4) F_43_31 rfl ?_
        refine r_ldI_n (m := 3) F_43_4 rfl ?_
        refine r_iconst F_43_5 ?_
        refine r_icmpF (t := 34) F_43_6 rfl (by decide) (by decide) (by show ¬ ((4 : Int) ≤ 3); decide) ?_
        refine r_ldR_n (m := 0) F_43_9 rfl ?_
        refine r_getR (J := 0) F_43_10 o_43 fl_0_9 hg (by decide) rfl (gw2 hg).1 (gw2 hg).2 (gw hg).2.2.2.2.2.2.1 ?_
        refine r_ldI_n (m := 3) F_43_13 rfl ?_
        refine r_iald (e := (s (g + 1) 3)) F_43_14 (gw hg).2.2.2.2.1 (by decide) (lt_ln (gw hg).2.2.2.2.2.1 (by decide)) rfl ?_
        refine r_ldI_n (m := 1) F_43_15 rfl ?_
        refine r_stat2 (A := [vI a]) (r := [vI (s (g + 1) 3)]) (n := 1) F_43_16 o_43 il_0_46 (by decide) rfl rfl rfl rfl (lay_le n_44 rfl) ?_
        refine sp_holdsFrom l1 ?_
        show Rn _ _ _ _ _ [vI (hf a), vI (s (g + 1) 3)] _ _
        refine r_icmp (t := 28) F_43_19 rfl (l27 e16 e24 e25) (inR_hf _) ?_ ?_
        · intro e26
          replace e26 : (s (g + 1) 3) < (hf a) := e26
          refine r_iinc (m := 3) (e := 4) (L' := [some (vR g), some (vI a), some (vI 3), some (vI 4)]) F_43_28 rfl rfl rfl rfl ?_
          refine r_goto (t := 4) F_43_31 rfl ?_
          refine r_ldI_n (m := 3) F_43_4 rfl ?_
          refine r_iconst F_43_5 ?_
          refine r_icmpT (t := 34) F_43_6 rfl (by decide) (by decide) (by show (4 : Int) ≤ 4; decide) ?_
          refine r_ldI_n (m := 2) F_43_34 rfl ?_
          refine r_ireturn F_43_35 rt_43 ?_
          exact (l28 e16 e24 e25 e26)
        · intro e27
          replace e27 : (hf a) ≤ (s (g + 1) 3) := (Int.not_lt.mp e27)
          refine r_ldI_n (m := 2) F_43_22 rfl ?_
          refine r_iconst F_43_23 ?_
          refine r_ldI_n (m := 3) F_43_24 rfl ?_
          refine r_ishl (e := 8) F_43_25 bo_ishl_1_3 ?_
          refine r_ior (e := 11) F_43_26 bo_ior_3_8 ?_
          refine r_stI_n (m := 2) (L' := [some (vR g), some (vI a), some (vI 11), some (vI 3)]) F_43_27 rfl rfl ?_
          refine r_iinc (m := 3) (e := 4) (L' := [some (vR g), some (vI a), some (vI 11), some (vI 4)]) F_43_28 rfl rfl rfl rfl ?_
          refine r_goto (t := 4) F_43_31 rfl ?_
          refine r_ldI_n (m := 3) F_43_4 rfl ?_
          refine r_iconst F_43_5 ?_
          refine r_icmpT (t := 34) F_43_6 rfl (by decide) (by decide) (by show (4 : Int) ≤ 4; decide) ?_
          refine r_ldI_n (m := 2) F_43_34 rfl ?_
          refine r_ireturn F_43_35 rt_43 ?_
          exact (l29 e16 e24 e25 e27)
      · intro e28
        replace e28 : (hf a) ≤ (s (g + 1) 2) := (Int.not_lt.mp e28)
        refine r_ldI_n (m := 2) F_43_22 rfl ?_
        refine r_iconst F_43_23 ?_
        refine r_ldI_n (m := 3) F_43_24 rfl ?_
        refine r_ishl (e := 4) F_43_25 bo_ishl_1_2 ?_
        refine r_ior (e := 7) F_43_26 bo_ior_3_4 ?_
        refine r_stI_n (m := 2) (L' := [some (vR g), some (vI a), some (vI 7), some (vI 2)]) F_43_27 rfl rfl ?_
        refine r_iinc (m := 3) (e := 3) (L' := [some (vR g), some (vI a), some (vI 7), some (vI 3)]) F_43_28 rfl rfl rfl rfl ?_
        refine r_goto (t := 4) F_43_31 rfl ?_
        refine r_ldI_n (m := 3) F_43_4 rfl ?_
        refine r_iconst F_43_5 ?_
        refine r_icmpF (t := 34) F_43_6 rfl (by decide) (by decide) (by show ¬ ((4 : Int) ≤ 3); decide) ?_
        refine r_ldR_n (m := 0) F_43_9 rfl ?_
        refine r_getR (J := 0) F_43_10 o_43 fl_0_9 hg (by decide) rfl (gw2 hg).1 (gw2 hg).2 (gw hg).2.2.2.2.2.2.1 ?_
        refine r_ldI_n (m := 3) F_43_13 rfl ?_
        refine r_iald (e := (s (g + 1) 3)) F_43_14 (gw hg).2.2.2.2.1 (by decide) (lt_ln (gw hg).2.2.2.2.2.1 (by decide)) rfl ?_
        refine r_ldI_n (m := 1) F_43_15 rfl ?_
        refine r_stat2 (A := [vI a]) (r := [vI (s (g + 1) 3)]) (n := 1) F_43_16 o_43 il_0_46 (by decide) rfl rfl rfl rfl (lay_le n_44 rfl) ?_
        refine sp_holdsFrom l1 ?_
        show Rn _ _ _ _ _ [vI (hf a), vI (s (g + 1) 3)] _ _
        refine r_icmp (t := 28) F_43_19 rfl (l30 e16 e24 e28) (inR_hf _) ?_ ?_
        · intro e29
          replace e29 : (s (g + 1) 3) < (hf a) := e29
          refine r_iinc (m := 3) (e := 4) (L' := [some (vR g), some (vI a), some (vI 7), some (vI 4)]) F_43_28 rfl rfl rfl rfl ?_
          refine r_goto (t := 4) F_43_31 rfl ?_
          refine r_ldI_n (m := 3) F_43_4 rfl ?_
          refine r_iconst F_43_5 ?_
          refine r_icmpT (t := 34) F_43_6 rfl (by decide) (by decide) (by show (4 : Int) ≤ 4; decide) ?_
          refine r_ldI_n (m := 2) F_43_34 rfl ?_
          refine r_ireturn F_43_35 rt_43 ?_
          exact (l31 e16 e24 e28 e29)
        · intro e30
          replace e30 : (hf a) ≤ (s (g + 1) 3) := (Int.not_lt.mp e30)
          refine r_ldI_n (m := 2) F_43_22 rfl ?_
          refine r_iconst F_43_23 ?_
          refine r_ldI_n (m := 3) F_43_24 rfl ?_
          refine r_ishl (e := 8) F_43_25 bo_ishl_1_3 ?_
          refine r_ior (e := 15) F_43_26 bo_ior_7_8 ?_
          refine r_stI_n (m := 2) (L' := [some (vR g), some (vI a), some (vI 15), some (vI 3)]) F_43_27 rfl rfl ?_
          refine r_iinc (m := 3) (e := 4) (L' := [some (vR g), some (vI a), some (vI 15), some (vI 4)]) F_43_28 rfl rfl rfl rfl ?_
          refine r_goto (t := 4) F_43_31 rfl ?_
          refine r_ldI_n (m := 3) F_43_4 rfl ?_
          refine r_iconst F_43_5 ?_
          refine r_icmpT (t := 34) F_43_6 rfl (by decide) (by decide) (by show (4 : Int) ≤ 4; decide) ?_
          refine r_ldI_n (m := 2) F_43_34 rfl ?_
          refine r_ireturn F_43_35 rt_43 ?_
          exact (l32 e16 e24 e28 e30)
