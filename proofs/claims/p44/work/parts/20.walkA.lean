/-! walks: kinds -/
theorem n_44 : m_n 44 = 1 := by decide +kernel
theorem F_44_0 : F 44 0 (.iload_n 0) 1 := ⟨1, by decide +kernel, rfl, rfl⟩
theorem F_44_1 : F 44 1 (.ifCond .lt 17) 4 := ⟨3, by decide +kernel, rfl, rfl⟩
theorem F_44_18 : F 44 18 (.getstatic 62) 21 := ⟨3, by decide +kernel, rfl, rfl⟩
theorem gl_0_62 : m_gl.lookup (0, 62) = some 1001 := by decide +kernel
theorem o_44 : m_o 44 = 0 := by decide +kernel
theorem F_44_21 : F 44 21 (.iconst 0) 22 := ⟨1, by decide +kernel, rfl, rfl⟩
theorem F_44_22 : F 44 22 (.iaload) 23 := ⟨1, by decide +kernel, rfl, rfl⟩
theorem F_44_23 : F 44 23 (.ireturn) 24 := ⟨1, by decide +kernel, rfl, rfl⟩
theorem rt_44 : m_r 44 = (some .int) := by decide +kernel
theorem F_44_4 : F 44 4 (.iload_n 0) 5 := ⟨1, by decide +kernel, rfl, rfl⟩
theorem F_44_5 : F 44 5 (.bipush 6) 7 := ⟨2, by decide +kernel, rfl, rfl⟩
theorem bi_6 : (Int8.ofInt 6).toInt32 = Int32.ofInt 6 := by decide +kernel
theorem F_44_7 : F 44 7 (.if_icmp .ge 11) 10 := ⟨3, by decide +kernel, rfl, rfl⟩
theorem F_44_10 : F 44 10 (.getstatic 62) 13 := ⟨3, by decide +kernel, rfl, rfl⟩
theorem F_44_13 : F 44 13 (.iload_n 0) 14 := ⟨1, by decide +kernel, rfl, rfl⟩
theorem F_44_14 : F 44 14 (.iaload) 15 := ⟨1, by decide +kernel, rfl, rfl⟩
theorem F_44_15 : F 44 15 (.goto 8) 18 := ⟨3, by decide +kernel, rfl, rfl⟩
theorem n_61 : m_n 61 = 1 := by decide +kernel
theorem F_61_0 : F 61 0 (.iload_n 0) 1 := ⟨1, by decide +kernel, rfl, rfl⟩
theorem F_61_1 : F 61 1 (.ifCond .lt 17) 4 := ⟨3, by decide +kernel, rfl, rfl⟩
theorem F_61_18 : F 61 18 (.iconst 0) 19 := ⟨1, by decide +kernel, rfl, rfl⟩
theorem F_61_19 : F 61 19 (.ireturn) 20 := ⟨1, by decide +kernel, rfl, rfl⟩
theorem rt_61 : m_r 61 = (some .int) := by decide +kernel
theorem F_61_4 : F 61 4 (.iload_n 0) 5 := ⟨1, by decide +kernel, rfl, rfl⟩
theorem F_61_5 : F 61 5 (.bipush 6) 7 := ⟨2, by decide +kernel, rfl, rfl⟩
theorem F_61_7 : F 61 7 (.if_icmp .ge 11) 10 := ⟨3, by decide +kernel, rfl, rfl⟩
theorem F_61_10 : F 61 10 (.getstatic 65) 13 := ⟨3, by decide +kernel, rfl, rfl⟩
theorem gl_0_65 : m_gl.lookup (0, 65) = some 1003 := by decide +kernel
theorem o_61 : m_o 61 = 0 := by decide +kernel
theorem F_61_13 : F 61 13 (.iload_n 0) 14 := ⟨1, by decide +kernel, rfl, rfl⟩
theorem F_61_14 : F 61 14 (.iaload) 15 := ⟨1, by decide +kernel, rfl, rfl⟩
theorem F_61_15 : F 61 15 (.goto 4) 18 := ⟨3, by decide +kernel, rfl, rfl⟩
theorem t_X0_holdsFrom {X : m_X} {d : Nat} {s : m_St} {P : Option Value → m_St → Prop} {a : Int}
    (l1 : inR a)
    (l2 : a < 0 → P (some (vI 5)) s)
    (l3 : 0 ≤ a → 6 ≤ a → P (some (vI 5)) s)
    (l4 : 0 ≤ a → a < 6 → P (some (vI (sx_1001 a))) s)
    : Cl X d 44 [vI a] s P := by
  refine Cl_of n_44 rfl ?_
  show Rn _ _ _ _ [some (vI a)] [] _ _
  refine r_ldI_n (m := 0) F_44_0 rfl ?_
  refine r_if (t := 18) F_44_1 rfl l1 ?_ ?_
  · intro e1
    replace e1 : a < 0 := e1
    refine r_gets (e := 1001) F_44_18 o_44 gl_0_62 rfl ?_
    refine r_iconst F_44_21 ?_
    refine r_ialdS (l := [5, 5, 5, 5, 7, 3]) (e := 5) F_44_22 rfl (by decide) (by decide) (by decide) (by decide) rfl ?_
    refine r_ireturn F_44_23 rt_44 ?_
    exact (l2 e1)
  · intro e2
    replace e2 : 0 ≤ a := (Int.not_lt.mp e2)
    refine r_ldI_n (m := 0) F_44_4 rfl ?_
    refine r_bipush F_44_5 bi_6 ?_
    refine r_icmp (t := 18) F_44_7 rfl l1 (by decide) ?_ ?_
    · intro e3
      replace e3 : 6 ≤ a := e3
      refine r_gets (e := 1001) F_44_18 o_44 gl_0_62 rfl ?_
      refine r_iconst F_44_21 ?_
      refine r_ialdS (l := [5, 5, 5, 5, 7, 3]) (e := 5) F_44_22 rfl (by decide) (by decide) (by decide) (by decide) rfl ?_
      refine r_ireturn F_44_23 rt_44 ?_
      exact (l3 e2 e3)
    · intro e4
      replace e4 : a < 6 := (Int.not_le.mp e4)
      refine r_gets (e := 1001) F_44_10 o_44 gl_0_62 rfl ?_
      refine r_ldI_n (m := 0) F_44_13 rfl ?_
      refine r_ialdS (l := [5, 5, 5, 5, 7, 3]) (e := (sx_1001 a)) F_44_14 rfl (by decide) e2 e4 (by decide) rfl ?_
      refine r_goto (t := 23) F_44_15 rfl ?_
      refine r_ireturn F_44_23 rt_44 ?_
      exact (l4 e2 e4)
theorem t_X0_movedAs {X : m_X} {d : Nat} {s : m_St} {P : Option Value → m_St → Prop} {a : Int}
    (l1 : inR a)
    (l2 : a < 0 → P (some (vI 0)) s)
    (l3 : 0 ≤ a → 6 ≤ a → P (some (vI 0)) s)
    (l4 : 0 ≤ a → a < 6 → P (some (vI (sx_1003 a))) s)
    : Cl X d 61 [vI a] s P := by
  refine Cl_of n_61 rfl ?_
  show Rn _ _ _ _ [some (vI a)] [] _ _
  refine r_ldI_n (m := 0) F_61_0 rfl ?_
  refine r_if (t := 18) F_61_1 rfl l1 ?_ ?_
  · intro e1
    replace e1 : a < 0 := e1
    refine r_iconst F_61_18 ?_
    refine r_ireturn F_61_19 rt_61 ?_
    exact (l2 e1)
  · intro e2
    replace e2 : 0 ≤ a := (Int.not_lt.mp e2)
    refine r_ldI_n (m := 0) F_61_4 rfl ?_
    refine r_bipush F_61_5 bi_6 ?_
    refine r_icmp (t := 18) F_61_7 rfl l1 (by decide) ?_ ?_
    · intro e3
      replace e3 : 6 ≤ a := e3
      refine r_iconst F_61_18 ?_
      refine r_ireturn F_61_19 rt_61 ?_
      exact (l3 e2 e3)
    · intro e4
      replace e4 : a < 6 := (Int.not_le.mp e4)
      refine r_gets (e := 1003) F_61_10 o_61 gl_0_65 rfl ?_
      refine r_ldI_n (m := 0) F_61_13 rfl ?_
      refine r_ialdS (l := [0, 1, 2, 3, 1, 2]) (e := (sx_1003 a)) F_61_14 rfl (by decide) e2 e4 (by decide) rfl ?_
      refine r_goto (t := 19) F_61_15 rfl ?_
      refine r_ireturn F_61_19 rt_61 ?_
      exact (l4 e2 e4)
