/-! walks: the reference, copies -/
theorem n_182 : m_n 182 = 5 := by decide +kernel
theorem F_182_0 : F 182 0 (.iconst 0) 1 := ⟨1, by decide +kernel, rfl, rfl⟩
theorem F_182_1 : F 182 1 (.istore 4) 3 := ⟨2, by decide +kernel, rfl, rfl⟩
theorem F_182_3 : F 182 3 (.iload 4) 5 := ⟨2, by decide +kernel, rfl, rfl⟩
theorem F_182_5 : F 182 5 (.sipush 198) 8 := ⟨3, by decide +kernel, rfl, rfl⟩
theorem si_198 : (Int16.ofInt 198).toInt32 = Int32.ofInt 198 := by decide +kernel
theorem F_182_8 : F 182 8 (.if_icmp .ge 21) 11 := ⟨3, by decide +kernel, rfl, rfl⟩
theorem F_182_29 : F 182 29 (.return_) 30 := ⟨1, by decide +kernel, rfl, rfl⟩
theorem rt_182 : m_r 182 = none := by decide +kernel
theorem F_182_11 : F 182 11 (.aload_n 2) 12 := ⟨1, by decide +kernel, rfl, rfl⟩
theorem F_182_12 : F 182 12 (.iload_n 3) 13 := ⟨1, by decide +kernel, rfl, rfl⟩
theorem F_182_13 : F 182 13 (.iload 4) 15 := ⟨2, by decide +kernel, rfl, rfl⟩
theorem F_182_15 : F 182 15 (.iadd) 16 := ⟨1, by decide +kernel, rfl, rfl⟩
theorem F_182_16 : F 182 16 (.aload_n 0) 17 := ⟨1, by decide +kernel, rfl, rfl⟩
theorem F_182_17 : F 182 17 (.iload_n 1) 18 := ⟨1, by decide +kernel, rfl, rfl⟩
theorem F_182_18 : F 182 18 (.iload 4) 20 := ⟨2, by decide +kernel, rfl, rfl⟩
theorem F_182_20 : F 182 20 (.iadd) 21 := ⟨1, by decide +kernel, rfl, rfl⟩
theorem F_182_21 : F 182 21 (.iaload) 22 := ⟨1, by decide +kernel, rfl, rfl⟩
theorem ln_84 : ln 84 = 198 := by decide +kernel
theorem ty_84 : ty 84 = 20 := by decide +kernel
theorem F_182_22 : F 182 22 (.iastore) 23 := ⟨1, by decide +kernel, rfl, rfl⟩
theorem F_182_23 : F 182 23 (.iinc 4 1) 26 := ⟨3, by decide +kernel, rfl, rfl⟩
theorem F_182_26 : F 182 26 (.goto (-23)) 29 := ⟨3, by decide +kernel, rfl, rfl⟩
theorem ln_85 : ln 85 = 594 := by decide +kernel
theorem ty_85 : ty 85 = 20 := by decide +kernel
theorem t_copies84 {X : List Int32} {d : Nat} {s : m_St} {P : Option Value → m_St → Prop} {a b : Int}
    (l1 : Rn X d 182 3 [some (vR 84), some (vI a), some (vR 83), some (vI b), some (vI 0)] [] s P)
    : Cl X d 182 [vR 84, vI a, vR 83, vI b] s P := by
  refine Cl_of n_182 rfl ?_
  show Rn _ _ _ _ [some (vR 84), some (vI a), some (vR 83), some (vI b), none] [] _ _
  refine r_iconst F_182_0 ?_
  refine r_stI (m := 4) (L' := [some (vR 84), some (vI a), some (vR 83), some (vI b), some (vI 0)]) F_182_1 rfl rfl ?_
  exact l1
theorem t_copies84_3 {X : List Int32} {d : Nat} {s : m_St} {P : Option Value → m_St → Prop} {a b k : Int} (k0 : 0 ≤ k)
    (l1 : inR k)
    (l2 : 198 ≤ k → P none s)
    (l3 : k < 198 → 0 ≤ (a + k))
    (l4 : k < 198 → (a + k) < 198)
    (l5 : k < 198 → 0 ≤ (b + k))
    (l6 : k < 198 → (b + k) < 198)
    (l7 : k < 198 → Rn X d 182 3 [some (vR 84), some (vI a), some (vR 83), some (vI b), some (vI (k + 1))] [] (m_upd s 83 (b + k) (s 84 (a + k))) P)
    : Rn X d 182 3 [some (vR 84), some (vI a), some (vR 83), some (vI b), some (vI k)] [] s P := by
  refine r_ldI (m := 4) F_182_3 rfl ?_
  refine r_sipush F_182_5 si_198 ?_
  refine r_icmp (t := 29) F_182_8 rfl l1 (by decide) ?_ ?_
  · intro e1
    replace e1 : 198 ≤ k := e1
    refine r_return F_182_29 rt_182 ?_
    exact (l2 e1)
  · intro e2
    replace e2 : k < 198 := (Int.not_le.mp e2)
    refine r_ldR_n (m := 2) F_182_11 rfl ?_
    refine r_ldI_n (m := 3) F_182_12 rfl ?_
    refine r_ldI (m := 4) F_182_13 rfl ?_
    refine r_iadd F_182_15 rfl ?_
    refine r_ldR_n (m := 0) F_182_16 rfl ?_
    refine r_ldI_n (m := 1) F_182_17 rfl ?_
    refine r_ldI (m := 4) F_182_18 rfl ?_
    refine r_iadd F_182_20 rfl ?_
    refine r_iald (e := (s 84 (a + k))) F_182_21 ty_84 (l3 e2) (lt_ln ln_84 (l4 e2)) rfl ?_
    refine r_iast F_182_22 ty_83 (l5 e2) (lt_ln ln_83 (l6 e2)) ?_
    refine r_iinc (m := 4) (e := (k + 1)) (L' := [some (vR 84), some (vI a), some (vR 83), some (vI b), some (vI (k + 1))]) F_182_23 rfl rfl rfl rfl ?_
    refine r_goto (t := 3) F_182_26 rfl ?_
    exact (l7 e2)
theorem t_copies83 {X : List Int32} {d : Nat} {s : m_St} {P : Option Value → m_St → Prop} {a b : Int}
    (l1 : Rn X d 182 3 [some (vR 83), some (vI a), some (vR 85), some (vI b), some (vI 0)] [] s P)
    : Cl X d 182 [vR 83, vI a, vR 85, vI b] s P := by
  refine Cl_of n_182 rfl ?_
  show Rn _ _ _ _ [some (vR 83), some (vI a), some (vR 85), some (vI b), none] [] _ _
  refine r_iconst F_182_0 ?_
  refine r_stI (m := 4) (L' := [some (vR 83), some (vI a), some (vR 85), some (vI b), some (vI 0)]) F_182_1 rfl rfl ?_
  exact l1
theorem t_copies83_3 {X : List Int32} {d : Nat} {s : m_St} {P : Option Value → m_St → Prop} {a b k : Int} (k0 : 0 ≤ k)
    (l1 : inR k)
    (l2 : 198 ≤ k → P none s)
    (l3 : k < 198 → 0 ≤ (a + k))
    (l4 : k < 198 → (a + k) < 198)
    (l5 : k < 198 → 0 ≤ (b + k))
    (l6 : k < 198 → (b + k) < 594)
    (l7 : k < 198 → Rn X d 182 3 [some (vR 83), some (vI a), some (vR 85), some (vI b), some (vI (k + 1))] [] (m_upd s 85 (b + k) (s 83 (a + k))) P)
    : Rn X d 182 3 [some (vR 83), some (vI a), some (vR 85), some (vI b), some (vI k)] [] s P := by
  refine r_ldI (m := 4) F_182_3 rfl ?_
  refine r_sipush F_182_5 si_198 ?_
  refine r_icmp (t := 29) F_182_8 rfl l1 (by decide) ?_ ?_
  · intro e1
    replace e1 : 198 ≤ k := e1
    refine r_return F_182_29 rt_182 ?_
    exact (l2 e1)
  · intro e2
    replace e2 : k < 198 := (Int.not_le.mp e2)
    refine r_ldR_n (m := 2) F_182_11 rfl ?_
    refine r_ldI_n (m := 3) F_182_12 rfl ?_
    refine r_ldI (m := 4) F_182_13 rfl ?_
    refine r_iadd F_182_15 rfl ?_
    refine r_ldR_n (m := 0) F_182_16 rfl ?_
    refine r_ldI_n (m := 1) F_182_17 rfl ?_
    refine r_ldI (m := 4) F_182_18 rfl ?_
    refine r_iadd F_182_20 rfl ?_
    refine r_iald (e := (s 83 (a + k))) F_182_21 ty_83 (l3 e2) (lt_ln ln_83 (l4 e2)) rfl ?_
    refine r_iast F_182_22 ty_85 (l5 e2) (lt_ln ln_85 (l6 e2)) ?_
    refine r_iinc (m := 4) (e := (k + 1)) (L' := [some (vR 83), some (vI a), some (vR 85), some (vI b), some (vI (k + 1))]) F_182_23 rfl rfl rfl rfl ?_
    refine r_goto (t := 3) F_182_26 rfl ?_
    exact (l7 e2)
theorem t_copies85 {X : List Int32} {d : Nat} {s : m_St} {P : Option Value → m_St → Prop} {a b : Int}
    (l1 : Rn X d 182 3 [some (vR 85), some (vI a), some (vR 83), some (vI b), some (vI 0)] [] s P)
    : Cl X d 182 [vR 85, vI a, vR 83, vI b] s P := by
  refine Cl_of n_182 rfl ?_
  show Rn _ _ _ _ [some (vR 85), some (vI a), some (vR 83), some (vI b), none] [] _ _
  refine r_iconst F_182_0 ?_
  refine r_stI (m := 4) (L' := [some (vR 85), some (vI a), some (vR 83), some (vI b), some (vI 0)]) F_182_1 rfl rfl ?_
  exact l1
theorem t_copies85_3 {X : List Int32} {d : Nat} {s : m_St} {P : Option Value → m_St → Prop} {a b k : Int} (k0 : 0 ≤ k)
    (l1 : inR k)
    (l2 : 198 ≤ k → P none s)
    (l3 : k < 198 → 0 ≤ (a + k))
    (l4 : k < 198 → (a + k) < 594)
    (l5 : k < 198 → 0 ≤ (b + k))
    (l6 : k < 198 → (b + k) < 198)
    (l7 : k < 198 → Rn X d 182 3 [some (vR 85), some (vI a), some (vR 83), some (vI b), some (vI (k + 1))] [] (m_upd s 83 (b + k) (s 85 (a + k))) P)
    : Rn X d 182 3 [some (vR 85), some (vI a), some (vR 83), some (vI b), some (vI k)] [] s P := by
  refine r_ldI (m := 4) F_182_3 rfl ?_
  refine r_sipush F_182_5 si_198 ?_
  refine r_icmp (t := 29) F_182_8 rfl l1 (by decide) ?_ ?_
  · intro e1
    replace e1 : 198 ≤ k := e1
    refine r_return F_182_29 rt_182 ?_
    exact (l2 e1)
  · intro e2
    replace e2 : k < 198 := (Int.not_le.mp e2)
    refine r_ldR_n (m := 2) F_182_11 rfl ?_
    refine r_ldI_n (m := 3) F_182_12 rfl ?_
    refine r_ldI (m := 4) F_182_13 rfl ?_
    refine r_iadd F_182_15 rfl ?_
    refine r_ldR_n (m := 0) F_182_16 rfl ?_
    refine r_ldI_n (m := 1) F_182_17 rfl ?_
    refine r_ldI (m := 4) F_182_18 rfl ?_
    refine r_iadd F_182_20 rfl ?_
    refine r_iald (e := (s 85 (a + k))) F_182_21 ty_85 (l3 e2) (lt_ln ln_85 (l4 e2)) rfl ?_
    refine r_iast F_182_22 ty_83 (l5 e2) (lt_ln ln_83 (l6 e2)) ?_
    refine r_iinc (m := 4) (e := (k + 1)) (L' := [some (vR 85), some (vI a), some (vR 83), some (vI b), some (vI (k + 1))]) F_182_23 rfl rfl rfl rfl ?_
    refine r_goto (t := 3) F_182_26 rfl ?_
    exact (l7 e2)
