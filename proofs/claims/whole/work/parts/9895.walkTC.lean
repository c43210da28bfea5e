/-! walks: the fewest of the reference -/
theorem n_226 : m_n 226 = 5 := by decide +kernel
theorem F_226_0 : F 226 0 (.iconst 0) 1 := ⟨1, by decide +kernel, rfl, rfl⟩
theorem F_226_1 : F 226 1 (.istore_n 3) 2 := ⟨1, by decide +kernel, rfl, rfl⟩
theorem F_226_2 : F 226 2 (.iload_n 3) 3 := ⟨1, by decide +kernel, rfl, rfl⟩
theorem F_226_3 : F 226 3 (.iload_n 2) 4 := ⟨1, by decide +kernel, rfl, rfl⟩
theorem F_226_4 : F 226 4 (.if_icmp .gt 62) 7 := ⟨3, by decide +kernel, rfl, rfl⟩
theorem F_226_66 : F 226 66 (.bipush (-9)) 68 := ⟨2, by decide +kernel, rfl, rfl⟩
theorem F_226_68 : F 226 68 (.ireturn) 69 := ⟨1, by decide +kernel, rfl, rfl⟩
theorem rt_226 : m_r 226 = (some .int) := by decide +kernel
theorem F_226_7 : F 226 7 (.aload_n 0) 8 := ⟨1, by decide +kernel, rfl, rfl⟩
theorem F_226_8 : F 226 8 (.iload_n 3) 9 := ⟨1, by decide +kernel, rfl, rfl⟩
theorem F_226_9 : F 226 9 (.iconst 1) 10 := ⟨1, by decide +kernel, rfl, rfl⟩
theorem F_226_10 : F 226 10 (.invokevirtual 223) 13 := ⟨3, by decide +kernel, rfl, rfl⟩
theorem o_226 : m_o 226 = 6 := by decide +kernel
theorem il_6_223 : ilq 6 223 0 227 2 = true := by decide +kernel
theorem vy_227 : (m_cls 6).1 = (m_y 227).cls ∧ 6 < m_cl.length := by decide +kernel
theorem F_226_13 : F 226 13 (.istore 4) 15 := ⟨2, by decide +kernel, rfl, rfl⟩
theorem F_226_15 : F 226 15 (.iload 4) 17 := ⟨2, by decide +kernel, rfl, rfl⟩
theorem F_226_17 : F 226 17 (.ifCond .eq 43) 20 := ⟨3, by decide +kernel, rfl, rfl⟩
theorem F_226_60 : F 226 60 (.iinc 3 1) 63 := ⟨3, by decide +kernel, rfl, rfl⟩
theorem F_226_63 : F 226 63 (.goto (-61)) 66 := ⟨3, by decide +kernel, rfl, rfl⟩
theorem F_226_20 : F 226 20 (.aload_n 0) 21 := ⟨1, by decide +kernel, rfl, rfl⟩
theorem F_226_21 : F 226 21 (.iload_n 3) 22 := ⟨1, by decide +kernel, rfl, rfl⟩
theorem F_226_22 : F 226 22 (.iconst 0) 23 := ⟨1, by decide +kernel, rfl, rfl⟩
theorem F_226_23 : F 226 23 (.invokevirtual 204) 26 := ⟨3, by decide +kernel, rfl, rfl⟩
theorem F_226_26 : F 226 26 (.aload_n 0) 27 := ⟨1, by decide +kernel, rfl, rfl⟩
theorem F_226_27 : F 226 27 (.iload_n 3) 28 := ⟨1, by decide +kernel, rfl, rfl⟩
theorem F_226_28 : F 226 28 (.iconst 1) 29 := ⟨1, by decide +kernel, rfl, rfl⟩
theorem F_226_29 : F 226 29 (.invokevirtual 204) 32 := ⟨3, by decide +kernel, rfl, rfl⟩
theorem F_226_32 : F 226 32 (.if_icmp .ne 17) 35 := ⟨3, by decide +kernel, rfl, rfl⟩
theorem F_226_49 : F 226 49 (.aload_n 0) 50 := ⟨1, by decide +kernel, rfl, rfl⟩
theorem F_226_50 : F 226 50 (.iload_n 3) 51 := ⟨1, by decide +kernel, rfl, rfl⟩
theorem F_226_51 : F 226 51 (.iconst 0) 52 := ⟨1, by decide +kernel, rfl, rfl⟩
theorem F_226_52 : F 226 52 (.invokevirtual 223) 55 := ⟨3, by decide +kernel, rfl, rfl⟩
theorem F_226_35 : F 226 35 (.iload_n 1) 36 := ⟨1, by decide +kernel, rfl, rfl⟩
theorem F_226_36 : F 226 36 (.aload_n 0) 37 := ⟨1, by decide +kernel, rfl, rfl⟩
theorem F_226_37 : F 226 37 (.iload_n 3) 38 := ⟨1, by decide +kernel, rfl, rfl⟩
theorem F_226_38 : F 226 38 (.invokevirtual 220) 41 := ⟨3, by decide +kernel, rfl, rfl⟩
theorem F_226_41 : F 226 41 (.iconst (-1)) 42 := ⟨1, by decide +kernel, rfl, rfl⟩
theorem F_226_42 : F 226 42 (.ixor) 43 := ⟨1, by decide +kernel, rfl, rfl⟩
theorem F_226_43 : F 226 43 (.iand) 44 := ⟨1, by decide +kernel, rfl, rfl⟩
theorem F_226_44 : F 226 44 (.ifCond .ne 5) 47 := ⟨3, by decide +kernel, rfl, rfl⟩
theorem F_226_47 : F 226 47 (.iload_n 3) 48 := ⟨1, by decide +kernel, rfl, rfl⟩
theorem F_226_48 : F 226 48 (.ireturn) 49 := ⟨1, by decide +kernel, rfl, rfl⟩
theorem F_226_55 : F 226 55 (.istore 4) 57 := ⟨2, by decide +kernel, rfl, rfl⟩
theorem F_226_57 : F 226 57 (.goto (-42)) 60 := ⟨3, by decide +kernel, rfl, rfl⟩
theorem t_X6_agreesIn {X : List Int32} {d : Nat} {s : m_St} {P : Option Value → m_St → Prop} {c m : Int}
    (l1 : Rn X (d + 5) 226 2 [some (vR 77), some (vI c), some (vI m), some (vI 0), none] [] s P)
    : Cl X (d + 5) 226 [vR 77, vI c, vI m] s P := by
  refine Cl_of n_226 rfl ?_
  show Rn _ _ _ _ [some (vR 77), some (vI c), some (vI m), none, none] [] _ _
  refine r_iconst F_226_0 ?_
  refine r_stI_n (m := 3) (L' := [some (vR 77), some (vI c), some (vI m), some (vI 0), none]) F_226_1 rfl rfl ?_
  exact l1
theorem t_X6_agreesIn_2 {X : List Int32} {d : Nat} {s : m_St} {P : Option Value → m_St → Prop} {c m n : Int} {z4 : Option Value} (n0 : 0 ≤ n)
    (l1 : inR n)
    (l2 : inR m)
    (l3 : m < n → P (some (vI (-9))) s)
    (l4 : n ≤ m → Cl X (d + 4) 227 [vR 77, vI n, vI 1] s (fun v s' => Rn X (d + 5) 226 13 [some (vR 77), some (vI c), some (vI m), some (vI n), z4] (m_push v []) s' P))
    : Rn X (d + 5) 226 2 [some (vR 77), some (vI c), some (vI m), some (vI n), z4] [] s P := by
  refine r_ldI_n (m := 3) F_226_2 rfl ?_
  refine r_ldI_n (m := 2) F_226_3 rfl ?_
  refine r_icmp (t := 66) F_226_4 rfl l1 l2 ?_ ?_
  · intro e1
    replace e1 : m < n := e1
    refine r_bipush F_226_66 bi__9 ?_
    refine r_ireturn F_226_68 rt_226 ?_
    exact (l3 e1)
  · intro e2
    replace e2 : n ≤ m := (Int.not_lt.mp e2)
    refine r_ldR_n (m := 0) F_226_7 rfl ?_
    refine r_ldI_n (m := 3) F_226_8 rfl ?_
    refine r_iconst F_226_9 ?_
    refine r_virt2 (A := [vI n, vI 1]) (r := []) (n := 2) F_226_10 o_226 il_6_223 rfl rfl rfl rfl ty_77 vy_227 (lay_le n_227 rfl) ?_
    exact (l4 e2)
theorem t_X6_agreesIn_13 {X : List Int32} {d : Nat} {s : m_St} {P : Option Value → m_St → Prop} {c m n rv : Int} {z4 : Option Value} (n0 : 0 ≤ n)
    (l1 : Rn X (d + 5) 226 15 [some (vR 77), some (vI c), some (vI m), some (vI n), some (vI rv)] [] s P)
    : Rn X (d + 5) 226 13 [some (vR 77), some (vI c), some (vI m), some (vI n), z4] [vI rv] s P := by
  refine r_stI (m := 4) (L' := [some (vR 77), some (vI c), some (vI m), some (vI n), some (vI rv)]) F_226_13 rfl rfl ?_
  exact l1
theorem t_X6_agreesIn_15 {X : List Int32} {d : Nat} {s : m_St} {P : Option Value → m_St → Prop} {c m n b : Int} (n0 : 0 ≤ n)
    (l1 : inR b)
    (l2 : b = 0 → Rn X (d + 5) 226 2 [some (vR 77), some (vI c), some (vI m), some (vI (n + 1)), some (vI b)] [] s P)
    (l3 : ¬ b = 0 → opS s)
    (l4 : ¬ b = 0 → (n : Int) ≤ 6)
    (l5 : ¬ b = 0 → w8 (wt s n))
    (l6 : ¬ b = 0 → ¬ (hW s n 0) = (hW s n 1) → Cl X (d + 4) 227 [vR 77, vI n, vI 0] s (fun v s' => Rn X (d + 5) 226 55 [some (vR 77), some (vI c), some (vI m), some (vI n), some (vI b)] (m_push v []) s' P))
    (l7 : ¬ b = 0 → (hW s n 0) = (hW s n 1) → ¬ (iAnd c (iXor (iAnd (hW s n 0) (hW s n 1)) (-1))) = 0 → Cl X (d + 4) 227 [vR 77, vI n, vI 0] s (fun v s' => Rn X (d + 5) 226 55 [some (vR 77), some (vI c), some (vI m), some (vI n), some (vI b)] (m_push v []) s' P))
    (l8 : ¬ b = 0 → (hW s n 0) = (hW s n 1) → (iAnd c (iXor (iAnd (hW s n 0) (hW s n 1)) (-1))) = 0 → P (some (vI n)) s)
    : Rn X (d + 5) 226 15 [some (vR 77), some (vI c), some (vI m), some (vI n), some (vI b)] [] s P := by
  refine r_ldI (m := 4) F_226_15 rfl ?_
  refine r_if (t := 60) F_226_17 rfl l1 ?_ ?_
  · intro e1
    replace e1 : b = 0 := e1
    refine r_iinc (m := 3) (e := (n + 1)) (L' := [some (vR 77), some (vI c), some (vI m), some (vI (n + 1)), some (vI b)]) F_226_60 rfl rfl rfl rfl ?_
    refine r_goto (t := 2) F_226_63 rfl ?_
    exact (l2 e1)
  · intro e2
    replace e2 : ¬ b = 0 := e2
    refine r_ldR_n (m := 0) F_226_20 rfl ?_
    refine r_ldI_n (m := 3) F_226_21 rfl ?_
    refine r_iconst F_226_22 ?_
    refine r_virt2 (A := [vI n, vI 0]) (r := []) (n := 2) F_226_23 o_226 il_6_204 rfl rfl rfl rfl ty_77 vy_222 (lay_le n_222 rfl) ?_
    refine sp_heldAtS (l3 e2) n0 (l4 e2) (l5 e2) (by decide) (by decide) ?_
    show Rn _ _ _ _ _ [vI (hW s n 0)] _ _
    refine r_ldR_n (m := 0) F_226_26 rfl ?_
    refine r_ldI_n (m := 3) F_226_27 rfl ?_
    refine r_iconst F_226_28 ?_
    refine r_virt2 (A := [vI n, vI 1]) (r := [vI (hW s n 0)]) (n := 2) F_226_29 o_226 il_6_204 rfl rfl rfl rfl ty_77 vy_222 (lay_le n_222 rfl) ?_
    refine sp_heldAtS (l3 e2) n0 (l4 e2) (l5 e2) (by decide) (by decide) ?_
    show Rn _ _ _ _ _ [vI (hW s n 1), vI (hW s n 0)] _ _
    refine r_icmp (t := 49) F_226_32 rfl (inR_hW _ _ _) (inR_hW _ _ _) ?_ ?_
    · intro e3
      replace e3 : ¬ (hW s n 0) = (hW s n 1) := e3
      refine r_ldR_n (m := 0) F_226_49 rfl ?_
      refine r_ldI_n (m := 3) F_226_50 rfl ?_
      refine r_iconst F_226_51 ?_
      refine r_virt2 (A := [vI n, vI 0]) (r := []) (n := 2) F_226_52 o_226 il_6_223 rfl rfl rfl rfl ty_77 vy_227 (lay_le n_227 rfl) ?_
      exact (l6 e2 e3)
    · intro e4
      replace e4 : (hW s n 0) = (hW s n 1) := (Classical.not_not.mp e4)
      refine r_ldI_n (m := 1) F_226_35 rfl ?_
      refine r_ldR_n (m := 0) F_226_36 rfl ?_
      refine r_ldI_n (m := 3) F_226_37 rfl ?_
      refine r_virt2 (A := [vI n]) (r := [vI c]) (n := 1) F_226_38 o_226 il_6_220 rfl rfl rfl rfl ty_77 vy_224 (lay_le n_224 rfl) ?_
      refine Cl_of n_224 rfl ?_
      show Rn _ _ _ _ [some (vR 77), some (vI n)] [] _ _
      refine r_ldR_n (m := 0) F_224_0 rfl ?_
      refine r_ldI_n (m := 1) F_224_1 rfl ?_
      refine r_iconst F_224_2 ?_
      refine r_virt2 (A := [vI n, vI 0]) (r := []) (n := 2) F_224_3 o_224 il_6_204 rfl rfl rfl rfl ty_77 vy_222 (lay_le n_222 rfl) ?_
      refine sp_heldAtS (l3 e2) n0 (l4 e2) (l5 e2) (by decide) (by decide) ?_
      show Rn _ _ _ _ _ [vI (hW s n 0)] _ _
      refine r_ldR_n (m := 0) F_224_6 rfl ?_
      refine r_ldI_n (m := 1) F_224_7 rfl ?_
      refine r_iconst F_224_8 ?_
      refine r_virt2 (A := [vI n, vI 1]) (r := [vI (hW s n 0)]) (n := 2) F_224_9 o_224 il_6_204 rfl rfl rfl rfl ty_77 vy_222 (lay_le n_222 rfl) ?_
      refine sp_heldAtS (l3 e2) n0 (l4 e2) (l5 e2) (by decide) (by decide) ?_
      show Rn _ _ _ _ _ [vI (hW s n 1), vI (hW s n 0)] _ _
      refine r_iand F_224_12 rfl ?_
      refine r_ireturn F_224_13 rt_224 ?_
      show Rn _ _ _ _ _ [vI (iAnd (hW s n 0) (hW s n 1)), vI c] _ _
      refine r_iconst F_226_41 ?_
      refine r_ixor F_226_42 rfl ?_
      refine r_iand F_226_43 rfl ?_
      refine r_if (t := 49) F_226_44 rfl (inR_iAnd _ _) ?_ ?_
      · intro e5
        replace e5 : ¬ (iAnd c (iXor (iAnd (hW s n 0) (hW s n 1)) (-1))) = 0 := e5
        refine r_ldR_n (m := 0) F_226_49 rfl ?_
        refine r_ldI_n (m := 3) F_226_50 rfl ?_
        refine r_iconst F_226_51 ?_
        refine r_virt2 (A := [vI n, vI 0]) (r := []) (n := 2) F_226_52 o_226 il_6_223 rfl rfl rfl rfl ty_77 vy_227 (lay_le n_227 rfl) ?_
        exact (l7 e2 e4 e5)
      · intro e6
        replace e6 : (iAnd c (iXor (iAnd (hW s n 0) (hW s n 1)) (-1))) = 0 := (Classical.not_not.mp e6)
        refine r_ldI_n (m := 3) F_226_47 rfl ?_
        refine r_ireturn F_226_48 rt_226 ?_
        exact (l8 e2 e4 e6)
theorem t_X6_agreesIn_55 {X : List Int32} {d : Nat} {s : m_St} {P : Option Value → m_St → Prop} {c m n b rv : Int} (n0 : 0 ≤ n)
    (l1 : Rn X (d + 5) 226 15 [some (vR 77), some (vI c), some (vI m), some (vI n), some (vI rv)] [] s P)
    : Rn X (d + 5) 226 55 [some (vR 77), some (vI c), some (vI m), some (vI n), some (vI b)] [vI rv] s P := by
  refine r_stI (m := 4) (L' := [some (vR 77), some (vI c), some (vI m), some (vI n), some (vI rv)]) F_226_55 rfl rfl ?_
  refine r_goto (t := 15) F_226_57 rfl ?_
  exact l1
