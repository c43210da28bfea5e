/-! walks: the calls of the reference, who one is -/
theorem n_233 : m_n 233 = 4 := by decide +kernel
theorem F_233_0 : F 233 0 (.aload_n 0) 1 := ⟨1, by decide +kernel, rfl, rfl⟩
theorem F_233_1 : F 233 1 (.iload_n 1) 2 := ⟨1, by decide +kernel, rfl, rfl⟩
theorem F_233_2 : F 233 2 (.iload_n 2) 3 := ⟨1, by decide +kernel, rfl, rfl⟩
theorem F_233_3 : F 233 3 (.invokevirtual 233) 6 := ⟨3, by decide +kernel, rfl, rfl⟩
theorem o_233 : m_o 233 = 6 := by decide +kernel
theorem il_6_233 : ilq 6 233 0 234 2 = true := by decide +kernel
theorem vy_234 : (m_cls 6).1 = (m_y 234).cls ∧ 6 < m_cl.length := by decide +kernel
theorem F_233_6 : F 233 6 (.istore_n 3) 7 := ⟨1, by decide +kernel, rfl, rfl⟩
theorem F_233_7 : F 233 7 (.iload_n 3) 8 := ⟨1, by decide +kernel, rfl, rfl⟩
theorem F_233_8 : F 233 8 (.ifCond .ne 12) 11 := ⟨3, by decide +kernel, rfl, rfl⟩
theorem F_233_20 : F 233 20 (.iload_n 3) 21 := ⟨1, by decide +kernel, rfl, rfl⟩
theorem F_233_21 : F 233 21 (.ireturn) 22 := ⟨1, by decide +kernel, rfl, rfl⟩
theorem rt_233 : m_r 233 = (some .int) := by decide +kernel
theorem F_233_11 : F 233 11 (.aload_n 0) 12 := ⟨1, by decide +kernel, rfl, rfl⟩
theorem F_233_12 : F 233 12 (.iload_n 1) 13 := ⟨1, by decide +kernel, rfl, rfl⟩
theorem F_233_13 : F 233 13 (.iload_n 2) 14 := ⟨1, by decide +kernel, rfl, rfl⟩
theorem F_233_14 : F 233 14 (.invokevirtual 236) 17 := ⟨3, by decide +kernel, rfl, rfl⟩
theorem il_6_236 : ilq 6 236 0 235 2 = true := by decide +kernel
theorem vy_235 : (m_cls 6).1 = (m_y 235).cls ∧ 6 < m_cl.length := by decide +kernel
theorem F_233_17 : F 233 17 (.goto 4) 20 := ⟨3, by decide +kernel, rfl, rfl⟩
theorem n_236 : m_n 236 = 7 := by decide +kernel
theorem F_236_0 : F 236 0 (.aload_n 0) 1 := ⟨1, by decide +kernel, rfl, rfl⟩
theorem F_236_1 : F 236 1 (.iload_n 1) 2 := ⟨1, by decide +kernel, rfl, rfl⟩
theorem F_236_2 : F 236 2 (.iload_n 2) 3 := ⟨1, by decide +kernel, rfl, rfl⟩
theorem F_236_3 : F 236 3 (.invokevirtual 233) 6 := ⟨3, by decide +kernel, rfl, rfl⟩
theorem o_236 : m_o 236 = 6 := by decide +kernel
theorem F_236_6 : F 236 6 (.istore_n 3) 7 := ⟨1, by decide +kernel, rfl, rfl⟩
theorem F_236_7 : F 236 7 (.iload_n 3) 8 := ⟨1, by decide +kernel, rfl, rfl⟩
theorem F_236_8 : F 236 8 (.ifCond .eq 5) 11 := ⟨3, by decide +kernel, rfl, rfl⟩
theorem F_236_13 : F 236 13 (.aload_n 0) 14 := ⟨1, by decide +kernel, rfl, rfl⟩
theorem F_236_14 : F 236 14 (.iload_n 1) 15 := ⟨1, by decide +kernel, rfl, rfl⟩
theorem F_236_15 : F 236 15 (.iload_n 2) 16 := ⟨1, by decide +kernel, rfl, rfl⟩
theorem F_236_16 : F 236 16 (.invokevirtual 236) 19 := ⟨3, by decide +kernel, rfl, rfl⟩
theorem F_236_19 : F 236 19 (.istore 4) 21 := ⟨2, by decide +kernel, rfl, rfl⟩
theorem F_236_21 : F 236 21 (.iconst 0) 22 := ⟨1, by decide +kernel, rfl, rfl⟩
theorem F_236_22 : F 236 22 (.istore 5) 24 := ⟨2, by decide +kernel, rfl, rfl⟩
theorem F_236_24 : F 236 24 (.iconst 1) 25 := ⟨1, by decide +kernel, rfl, rfl⟩
theorem F_236_25 : F 236 25 (.istore 6) 27 := ⟨2, by decide +kernel, rfl, rfl⟩
theorem F_236_11 : F 236 11 (.iload_n 3) 12 := ⟨1, by decide +kernel, rfl, rfl⟩
theorem F_236_12 : F 236 12 (.ireturn) 13 := ⟨1, by decide +kernel, rfl, rfl⟩
theorem rt_236 : m_r 236 = (some .int) := by decide +kernel
theorem F_236_27 : F 236 27 (.iload 6) 29 := ⟨2, by decide +kernel, rfl, rfl⟩
theorem F_236_29 : F 236 29 (.iconst 4) 30 := ⟨1, by decide +kernel, rfl, rfl⟩
theorem F_236_30 : F 236 30 (.if_icmp .ge 39) 33 := ⟨3, by decide +kernel, rfl, rfl⟩
theorem F_236_69 : F 236 69 (.iload 4) 71 := ⟨2, by decide +kernel, rfl, rfl⟩
theorem F_236_71 : F 236 71 (.ifCond .ne 8) 74 := ⟨3, by decide +kernel, rfl, rfl⟩
theorem F_236_79 : F 236 79 (.aload_n 0) 80 := ⟨1, by decide +kernel, rfl, rfl⟩
theorem F_236_80 : F 236 80 (.iload 5) 82 := ⟨2, by decide +kernel, rfl, rfl⟩
theorem F_236_82 : F 236 82 (.aload_n 0) 83 := ⟨1, by decide +kernel, rfl, rfl⟩
theorem F_236_83 : F 236 83 (.iload_n 1) 84 := ⟨1, by decide +kernel, rfl, rfl⟩
theorem F_236_84 : F 236 84 (.iload 4) 86 := ⟨2, by decide +kernel, rfl, rfl⟩
theorem F_236_86 : F 236 86 (.iload 5) 88 := ⟨2, by decide +kernel, rfl, rfl⟩
theorem F_236_88 : F 236 88 (.invokevirtual 239) 91 := ⟨3, by decide +kernel, rfl, rfl⟩
theorem il_6_239 : ilq 6 239 0 237 3 = true := by decide +kernel
theorem vy_237 : (m_cls 6).1 = (m_y 237).cls ∧ 6 < m_cl.length := by decide +kernel
theorem F_236_91 : F 236 91 (.invokevirtual 87) 94 := ⟨3, by decide +kernel, rfl, rfl⟩
theorem F_236_94 : F 236 94 (.ireturn) 95 := ⟨1, by decide +kernel, rfl, rfl⟩
theorem F_236_74 : F 236 74 (.bipush (-9)) 76 := ⟨2, by decide +kernel, rfl, rfl⟩
theorem F_236_76 : F 236 76 (.goto 18) 79 := ⟨3, by decide +kernel, rfl, rfl⟩
theorem F_236_33 : F 236 33 (.aload_n 0) 34 := ⟨1, by decide +kernel, rfl, rfl⟩
theorem F_236_34 : F 236 34 (.iload_n 1) 35 := ⟨1, by decide +kernel, rfl, rfl⟩
theorem F_236_35 : F 236 35 (.iload 4) 37 := ⟨2, by decide +kernel, rfl, rfl⟩
theorem F_236_37 : F 236 37 (.iload 6) 39 := ⟨2, by decide +kernel, rfl, rfl⟩
theorem F_236_39 : F 236 39 (.invokevirtual 239) 42 := ⟨3, by decide +kernel, rfl, rfl⟩
theorem F_236_42 : F 236 42 (.aload_n 0) 43 := ⟨1, by decide +kernel, rfl, rfl⟩
theorem F_236_43 : F 236 43 (.iload_n 1) 44 := ⟨1, by decide +kernel, rfl, rfl⟩
theorem F_236_44 : F 236 44 (.iload 4) 46 := ⟨2, by decide +kernel, rfl, rfl⟩
theorem F_236_46 : F 236 46 (.iload 5) 48 := ⟨2, by decide +kernel, rfl, rfl⟩
theorem F_236_48 : F 236 48 (.invokevirtual 239) 51 := ⟨3, by decide +kernel, rfl, rfl⟩
theorem F_236_51 : F 236 51 (.if_icmp .ge 8) 54 := ⟨3, by decide +kernel, rfl, rfl⟩
theorem F_236_59 : F 236 59 (.iload 5) 61 := ⟨2, by decide +kernel, rfl, rfl⟩
theorem F_236_61 : F 236 61 (.istore 5) 63 := ⟨2, by decide +kernel, rfl, rfl⟩
theorem F_236_63 : F 236 63 (.iinc 6 1) 66 := ⟨3, by decide +kernel, rfl, rfl⟩
theorem F_236_66 : F 236 66 (.goto (-39)) 69 := ⟨3, by decide +kernel, rfl, rfl⟩
theorem F_236_54 : F 236 54 (.iload 6) 56 := ⟨2, by decide +kernel, rfl, rfl⟩
theorem F_236_56 : F 236 56 (.goto 5) 59 := ⟨3, by decide +kernel, rfl, rfl⟩
theorem t_X6_kinds {X : List Int32} {d : Nat} {s : m_St} {P : Option Value → m_St → Prop} {i r : Int}
    (l1 : inR i)
    (l2 : inR r)
    (l3 : 0 ≤ s 83 0)
    (l4 : s 83 0 ≤ 6)
    (l5 : ∀ r, 0 ≤ r → r < 6 → rwM s r)
    (l6 : ∀ (v1 : Int) (s1 : m_St), qBa s i r v1 s1 → inR v1)
    (l7 : ∀ (v1 : Int) (s1 : m_St), qBa s i r v1 s1 → ¬ v1 = 0 → P (some (vI v1)) s1)
    (l8 : ∀ (v1 : Int) (s1 : m_St), qBa s i r v1 s1 → v1 = 0 → mok s1)
    (l9 : ∀ (v1 : Int) (s1 : m_St), qBa s i r v1 s1 → v1 = 0 → 0 ≤ i)
    (l10 : ∀ (v1 : Int) (s1 : m_St), qBa s i r v1 s1 → v1 = 0 → i < s1 83 0)
    (l11 : ∀ (v1 : Int) (s1 : m_St), qBa s i r v1 s1 → v1 = 0 → 0 ≤ r)
    (l12 : ∀ (v1 : Int) (s1 : m_St), qBa s i r v1 s1 → v1 = 0 → r < 6)
    (l13 : ∀ (v1 : Int) (s1 : m_St), qBa s i r v1 s1 → v1 = 0 → 0 ≤ s1 78 r)
    (l14 : ∀ (v1 : Int) (s1 : m_St), qBa s i r v1 s1 → v1 = 0 → s1 78 r ≤ 40)
    (l15 : ∀ (v1 : Int) (s1 : m_St), qBa s i r v1 s1 → v1 = 0 → s1 78 r % 3 = 0)
    (l16 : ∀ (v1 : Int) (s1 : m_St), qBa s i r v1 s1 → v1 = 0 → atM s1 r)
    (l17 : ∀ (v1 : Int) (s1 : m_St), qBa s i r v1 s1 → v1 = 0 → ∀ (v4 : Int) (s4 : m_St), v4 = kbs (fun q => pb (fiM s1 i r q)) 6 ∧ fr80 s1 s4 → P (some (vI v4)) s4)
    : Cl X (d + 3) 233 [vR 77, vI i, vI r] s P := by
  refine Cl_of n_233 rfl ?_
  show Rn _ _ _ _ [some (vR 77), some (vI i), some (vI r), none] [] _ _
  refine r_ldR_n (m := 0) F_233_0 rfl ?_
  refine r_ldI_n (m := 1) F_233_1 rfl ?_
  refine r_ldI_n (m := 2) F_233_2 rfl ?_
  refine r_virt2 (A := [vI i, vI r]) (r := []) (n := 2) F_233_3 o_233 il_6_233 rfl rfl rfl rfl ty_77 vy_234 (lay_le n_234 rfl) ?_
  refine sp_barred l1 l2 l3 l4 l5 ?_
  intro v1 s1 q1
  show Rn _ _ _ _ _ [vI v1] _ _
  refine r_stI_n (m := 3) (L' := [some (vR 77), some (vI i), some (vI r), some (vI v1)]) F_233_6 rfl rfl ?_
  refine r_ldI_n (m := 3) F_233_7 rfl ?_
  refine r_if (t := 20) F_233_8 rfl (l6 v1 s1 q1) ?_ ?_
  · intro e2
    replace e2 : ¬ v1 = 0 := e2
    refine r_ldI_n (m := 3) F_233_20 rfl ?_
    refine r_ireturn F_233_21 rt_233 ?_
    exact (l7 v1 s1 q1 e2)
  · intro e3
    replace e3 : v1 = 0 := (Classical.not_not.mp e3)
    refine r_ldR_n (m := 0) F_233_11 rfl ?_
    refine r_ldI_n (m := 1) F_233_12 rfl ?_
    refine r_ldI_n (m := 2) F_233_13 rfl ?_
    refine r_virt2 (A := [vI i, vI r]) (r := []) (n := 2) F_233_14 o_233 il_6_236 rfl rfl rfl rfl ty_77 vy_235 (lay_le n_235 rfl) ?_
    refine sp_kindsByM (l8 v1 s1 q1 e3) (l9 v1 s1 q1 e3) (l10 v1 s1 q1 e3) (l11 v1 s1 q1 e3) (l12 v1 s1 q1 e3) (l13 v1 s1 q1 e3) (l14 v1 s1 q1 e3) (l15 v1 s1 q1 e3) (l16 v1 s1 q1 e3) ?_
    intro v4 s4 q4
    show Rn _ _ _ _ _ [vI v4] _ _
    refine r_goto (t := 21) F_233_17 rfl ?_
    refine r_ireturn F_233_21 rt_233 ?_
    exact (l17 v1 s1 q1 e3 v4 s4 q4)
theorem t_X6_test {X : List Int32} {d : Nat} {s : m_St} {P : Option Value → m_St → Prop} {i r : Int}
    (l1 : inR i)
    (l2 : inR r)
    (l3 : 0 ≤ s 83 0)
    (l4 : s 83 0 ≤ 6)
    (l5 : ∀ r, 0 ≤ r → r < 6 → rwM s r)
    (l6 : ∀ (v1 : Int) (s1 : m_St), qBa s i r v1 s1 → inR v1)
    (l7 : ∀ (v1 : Int) (s1 : m_St), qBa s i r v1 s1 → v1 = 0 → mok s1)
    (l8 : ∀ (v1 : Int) (s1 : m_St), qBa s i r v1 s1 → v1 = 0 → 0 ≤ i)
    (l9 : ∀ (v1 : Int) (s1 : m_St), qBa s i r v1 s1 → v1 = 0 → i < s1 83 0)
    (l10 : ∀ (v1 : Int) (s1 : m_St), qBa s i r v1 s1 → v1 = 0 → 0 ≤ r)
    (l11 : ∀ (v1 : Int) (s1 : m_St), qBa s i r v1 s1 → v1 = 0 → r < 6)
    (l12 : ∀ (v1 : Int) (s1 : m_St), qBa s i r v1 s1 → v1 = 0 → 0 ≤ s1 78 r)
    (l13 : ∀ (v1 : Int) (s1 : m_St), qBa s i r v1 s1 → v1 = 0 → s1 78 r ≤ 40)
    (l14 : ∀ (v1 : Int) (s1 : m_St), qBa s i r v1 s1 → v1 = 0 → s1 78 r % 3 = 0)
    (l15 : ∀ (v1 : Int) (s1 : m_St), qBa s i r v1 s1 → v1 = 0 → atM s1 r)
    (l16 : ∀ (v1 : Int) (s1 : m_St), qBa s i r v1 s1 → v1 = 0 → ∀ (v3 : Int) (s3 : m_St), v3 = kbs (fun q => pb (fiM s1 i r q)) 6 ∧ fr80 s1 s3 → Rn X (d + 3) 236 27 [some (vR 77), some (vI i), some (vI r), some (vI v1), some (vI v3), some (vI 0), some (vI 1)] [] s3 P)
    (l17 : ∀ (v1 : Int) (s1 : m_St), qBa s i r v1 s1 → ¬ v1 = 0 → P (some (vI v1)) s1)
    : Cl X (d + 3) 236 [vR 77, vI i, vI r] s P := by
  refine Cl_of n_236 rfl ?_
  show Rn _ _ _ _ [some (vR 77), some (vI i), some (vI r), none, none, none, none] [] _ _
  refine r_ldR_n (m := 0) F_236_0 rfl ?_
  refine r_ldI_n (m := 1) F_236_1 rfl ?_
  refine r_ldI_n (m := 2) F_236_2 rfl ?_
  refine r_virt2 (A := [vI i, vI r]) (r := []) (n := 2) F_236_3 o_236 il_6_233 rfl rfl rfl rfl ty_77 vy_234 (lay_le n_234 rfl) ?_
  refine sp_barred l1 l2 l3 l4 l5 ?_
  intro v1 s1 q1
  show Rn _ _ _ _ _ [vI v1] _ _
  refine r_stI_n (m := 3) (L' := [some (vR 77), some (vI i), some (vI r), some (vI v1), none, none, none]) F_236_6 rfl rfl ?_
  refine r_ldI_n (m := 3) F_236_7 rfl ?_
  refine r_if (t := 13) F_236_8 rfl (l6 v1 s1 q1) ?_ ?_
  · intro e2
    replace e2 : v1 = 0 := e2
    refine r_ldR_n (m := 0) F_236_13 rfl ?_
    refine r_ldI_n (m := 1) F_236_14 rfl ?_
    refine r_ldI_n (m := 2) F_236_15 rfl ?_
    refine r_virt2 (A := [vI i, vI r]) (r := []) (n := 2) F_236_16 o_236 il_6_236 rfl rfl rfl rfl ty_77 vy_235 (lay_le n_235 rfl) ?_
    refine sp_kindsByM (l7 v1 s1 q1 e2) (l8 v1 s1 q1 e2) (l9 v1 s1 q1 e2) (l10 v1 s1 q1 e2) (l11 v1 s1 q1 e2) (l12 v1 s1 q1 e2) (l13 v1 s1 q1 e2) (l14 v1 s1 q1 e2) (l15 v1 s1 q1 e2) ?_
    intro v3 s3 q3
    show Rn _ _ _ _ _ [vI v3] _ _
    refine r_stI (m := 4) (L' := [some (vR 77), some (vI i), some (vI r), some (vI v1), some (vI v3), none, none]) F_236_19 rfl rfl ?_
    refine r_iconst F_236_21 ?_
    refine r_stI (m := 5) (L' := [some (vR 77), some (vI i), some (vI r), some (vI v1), some (vI v3), some (vI 0), none]) F_236_22 rfl rfl ?_
    refine r_iconst F_236_24 ?_
    refine r_stI (m := 6) (L' := [some (vR 77), some (vI i), some (vI r), some (vI v1), some (vI v3), some (vI 0), some (vI 1)]) F_236_25 rfl rfl ?_
    exact (l16 v1 s1 q1 e2 v3 s3 q3)
  · intro e4
    replace e4 : ¬ v1 = 0 := e4
    refine r_ldI_n (m := 3) F_236_11 rfl ?_
    refine r_ireturn F_236_12 rt_236 ?_
    exact (l17 v1 s1 q1 e4)
theorem t_X6_test_27 {X : List Int32} {d : Nat} {s : m_St} {P : Option Value → m_St → Prop} {i r x3 b w c : Int} (w0 : 0 ≤ w) (w4 : w < 4) (c0 : 0 ≤ c)
    (l1 : inR c)
    (l2 : 4 ≤ c → inR b)
    (l3 : 4 ≤ c → ¬ b = 0 → mok s)
    (l4 : 4 ≤ c → ¬ b = 0 → 0 ≤ i)
    (l5 : 4 ≤ c → ¬ b = 0 → i < s 83 0)
    (l6 : 4 ≤ c → ¬ b = 0 → P (some (vI w)) (m_upd s 77 11 (alm b (mvM s i w) 5)))
    (l7 : 4 ≤ c → b = 0 → P (some (vI (-9))) s)
    (l8 : c < 4 → mok s)
    (l9 : c < 4 → 0 ≤ i)
    (l10 : c < 4 → i < s 83 0)
    (l11 : c < 4 → (alm b (mvM s i w) 5) ≤ (alm b (mvM s i c) 5) → Rn X (d + 3) 236 27 [some (vR 77), some (vI i), some (vI r), some (vI x3), some (vI b), some (vI w), some (vI (c + 1))] [] s P)
    (l12 : c < 4 → (alm b (mvM s i c) 5) < (alm b (mvM s i w) 5) → Rn X (d + 3) 236 27 [some (vR 77), some (vI i), some (vI r), some (vI x3), some (vI b), some (vI c), some (vI (c + 1))] [] s P)
    : Rn X (d + 3) 236 27 [some (vR 77), some (vI i), some (vI r), some (vI x3), some (vI b), some (vI w), some (vI c)] [] s P := by
  refine r_ldI (m := 6) F_236_27 rfl ?_
  refine r_iconst F_236_29 ?_
  refine r_icmp (t := 69) F_236_30 rfl l1 (by decide) ?_ ?_
  · intro e1
    replace e1 : 4 ≤ c := e1
    refine r_ldI (m := 4) F_236_69 rfl ?_
    refine r_if (t := 79) F_236_71 rfl (l2 e1) ?_ ?_
    · intro e2
      replace e2 : ¬ b = 0 := e2
      refine r_ldR_n (m := 0) F_236_79 rfl ?_
      refine r_ldI (m := 5) F_236_80 rfl ?_
      refine r_ldR_n (m := 0) F_236_82 rfl ?_
      refine r_ldI_n (m := 1) F_236_83 rfl ?_
      refine r_ldI (m := 4) F_236_84 rfl ?_
      refine r_ldI (m := 5) F_236_86 rfl ?_
      refine r_virt2 (A := [vI i, vI b, vI w]) (r := [vI w, vR 77]) (n := 3) F_236_88 o_236 il_6_239 rfl rfl rfl rfl ty_77 vy_237 (lay_le n_237 rfl) ?_
      refine sp_alike (l3 e1 e2) (l4 e1 e2) (l5 e1 e2) w0 w4 ?_
      show Rn _ _ _ _ _ [vI (alm b (mvM s i w) 5), vI w, vR 77] _ _
      refine r_virt2 (A := [vI w, vI (alm b (mvM s i w) 5)]) (r := []) (n := 2) F_236_91 o_236 il_6_87 rfl rfl rfl rfl ty_77 vy_165 (lay_le n_165 rfl) ?_
      refine Cl_of n_165 rfl ?_
      show Rn _ _ _ _ [some (vR 77), some (vI w), some (vI (alm b (mvM s i w) 5))] [] _ _
      refine r_ldR_n (m := 0) F_165_0 rfl ?_
      refine r_ldI_n (m := 2) F_165_1 rfl ?_
      refine r_putI (J := 11) F_165_2 o_165 fl_6_61 ty_77 (by decide) rfl kd_77_11 pf_6_11 ?_
      refine r_ldI_n (m := 1) F_165_5 rfl ?_
      refine r_ireturn F_165_6 rt_165 ?_
      show Rn _ _ _ _ _ [vI w] _ _
      refine r_ireturn F_236_94 rt_236 ?_
      exact (l6 e1 e2)
    · intro e3
      replace e3 : b = 0 := (Classical.not_not.mp e3)
      refine r_bipush F_236_74 bi__9 ?_
      refine r_goto (t := 94) F_236_76 rfl ?_
      refine r_ireturn F_236_94 rt_236 ?_
      exact (l7 e1 e3)
  · intro e4
    replace e4 : c < 4 := (Int.not_le.mp e4)
    refine r_ldR_n (m := 0) F_236_33 rfl ?_
    refine r_ldI_n (m := 1) F_236_34 rfl ?_
    refine r_ldI (m := 4) F_236_35 rfl ?_
    refine r_ldI (m := 6) F_236_37 rfl ?_
    refine r_virt2 (A := [vI i, vI b, vI c]) (r := []) (n := 3) F_236_39 o_236 il_6_239 rfl rfl rfl rfl ty_77 vy_237 (lay_le n_237 rfl) ?_
    refine sp_alike (l8 e4) (l9 e4) (l10 e4) c0 e4 ?_
    show Rn _ _ _ _ _ [vI (alm b (mvM s i c) 5)] _ _
    refine r_ldR_n (m := 0) F_236_42 rfl ?_
    refine r_ldI_n (m := 1) F_236_43 rfl ?_
    refine r_ldI (m := 4) F_236_44 rfl ?_
    refine r_ldI (m := 5) F_236_46 rfl ?_
    refine r_virt2 (A := [vI i, vI b, vI w]) (r := [vI (alm b (mvM s i c) 5)]) (n := 3) F_236_48 o_236 il_6_239 rfl rfl rfl rfl ty_77 vy_237 (lay_le n_237 rfl) ?_
    refine sp_alike (l8 e4) (l9 e4) (l10 e4) w0 w4 ?_
    show Rn _ _ _ _ _ [vI (alm b (mvM s i w) 5), vI (alm b (mvM s i c) 5)] _ _
    refine r_icmp (t := 59) F_236_51 rfl (inR_alm _ _ _) (inR_alm _ _ _) ?_ ?_
    · intro e5
      replace e5 : (alm b (mvM s i w) 5) ≤ (alm b (mvM s i c) 5) := e5
      refine r_ldI (m := 5) F_236_59 rfl ?_
      refine r_stI (m := 5) (L' := [some (vR 77), some (vI i), some (vI r), some (vI x3), some (vI b), some (vI w), some (vI c)]) F_236_61 rfl rfl ?_
      refine r_iinc (m := 6) (e := (c + 1)) (L' := [some (vR 77), some (vI i), some (vI r), some (vI x3), some (vI b), some (vI w), some (vI (c + 1))]) F_236_63 rfl rfl rfl rfl ?_
      refine r_goto (t := 27) F_236_66 rfl ?_
      exact (l11 e4 e5)
    · intro e6
      replace e6 : (alm b (mvM s i c) 5) < (alm b (mvM s i w) 5) := (Int.not_le.mp e6)
      refine r_ldI (m := 6) F_236_54 rfl ?_
      refine r_goto (t := 61) F_236_56 rfl ?_
      refine r_stI (m := 5) (L' := [some (vR 77), some (vI i), some (vI r), some (vI x3), some (vI b), some (vI c), some (vI c)]) F_236_61 rfl rfl ?_
      refine r_iinc (m := 6) (e := (c + 1)) (L' := [some (vR 77), some (vI i), some (vI r), some (vI x3), some (vI b), some (vI c), some (vI (c + 1))]) F_236_63 rfl rfl rfl rfl ?_
      refine r_goto (t := 27) F_236_66 rfl ?_
      exact (l12 e4 e6)
