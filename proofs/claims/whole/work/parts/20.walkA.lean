/-! walks: kinds -/
theorem n_44 : m_n 44 = 1 := by decide +kernel
theorem F_44_0 : F 44 0 (.iload_n 0) 1 := ⟨1, by decide +kernel, rfl, rfl⟩
theorem F_44_1 : F 44 1 (.ifCond .lt 17) 4 := ⟨3, by decide +kernel, rfl, rfl⟩
theorem F_44_18 : F 44 18 (.getstatic 62) 21 := ⟨3, by decide +kernel, rfl, rfl⟩
theorem gl_0_62 : m_gl.lookup (0, 62) = some 1001 := by decide +kernel
theorem o_44 : m_o 44 = 0 := by decide +kernel
theorem F_44_21 : F 44 21 (.iconst 0) 22 := ⟨1, by decide +kernel, rfl, rfl⟩
theorem F_44_22 : F 44 22 (.iaload) 23 := ⟨1, by decide +kernel, rfl, rfl⟩
theorem F_44_23 : F 44 23 (.ireturn) 24 := ⟨1, by decide +kernel, rfl, rfl⟩
theorem rt_44 : m_r 44 = (some .int) := by decide +kernel
theorem F_44_4 : F 44 4 (.iload_n 0) 5 := ⟨1, by decide +kernel, rfl, rfl⟩
theorem F_44_5 : F 44 5 (.bipush 6) 7 := ⟨2, by decide +kernel, rfl, rfl⟩
theorem bi_6 : (Int8.ofInt 6).toInt32 = Int32.ofInt 6 := by decide +kernel
theorem F_44_7 : F 44 7 (.if_icmp .ge 11) 10 := ⟨3, by decide +kernel, rfl, rfl⟩
theorem F_44_10 : F 44 10 (.getstatic 62) 13 := ⟨3, by decide +kernel, rfl, rfl⟩
theorem F_44_13 : F 44 13 (.iload_n 0) 14 := ⟨1, by decide +kernel, rfl, rfl⟩
theorem F_44_14 : F 44 14 (.iaload) 15 := ⟨1, by decide +kernel, rfl, rfl⟩
theorem F_44_15 : F 44 15 (.goto 8) 18 := ⟨3, by decide +kernel, rfl, rfl⟩
theorem n_61 : m_n 61 = 1 := by decide +kernel
theorem F_61_0 : F 61 0 (.iload_n 0) 1 := ⟨1, by decide +kernel, rfl, rfl⟩
theorem F_61_1 : F 61 1 (.ifCond .lt 17) 4 := ⟨3, by decide +kernel, rfl, rfl⟩
theorem F_61_18 : F 61 18 (.iconst 0) 19 := ⟨1, by decide +kernel, rfl, rfl⟩
theorem F_61_19 : F 61 19 (.ireturn) 20 := ⟨1, by decide +kernel, rfl, rfl⟩
theorem rt_61 : m_r 61 = (some .int) := by decide +kernel
theorem F_61_4 : F 61 4 (.iload_n 0) 5 := ⟨1, by decide +kernel, rfl, rfl⟩
theorem F_61_5 : F 61 5 (.bipush 6) 7 := ⟨2, by decide +kernel, rfl, rfl⟩
theorem F_61_7 : F 61 7 (.if_icmp .ge 11) 10 := ⟨3, by decide +kernel, rfl, rfl⟩
theorem F_61_10 : F 61 10 (.getstatic 65) 13 := ⟨3, by decide +kernel, rfl, rfl⟩
theorem gl_0_65 : m_gl.lookup (0, 65) = some 1003 := by decide +kernel
theorem o_61 : m_o 61 = 0 := by decide +kernel
theorem F_61_13 : F 61 13 (.iload_n 0) 14 := ⟨1, by decide +kernel, rfl, rfl⟩
theorem F_61_14 : F 61 14 (.iaload) 15 := ⟨1, by decide +kernel, rfl, rfl⟩
theorem F_61_15 : F 61 15 (.goto 4) 18 := ⟨3, by decide +kernel, rfl, rfl⟩
theorem n_189 : m_n 189 = 1 := by decide +kernel
theorem F_189_0 : F 189 0 (.iload_n 0) 1 := ⟨1, by decide +kernel, rfl, rfl⟩
theorem F_189_1 : F 189 1 (.iconst 4) 2 := ⟨1, by decide +kernel, rfl, rfl⟩
theorem F_189_2 : F 189 2 (.if_icmp .ne 8) 5 := ⟨3, by decide +kernel, rfl, rfl⟩
theorem F_189_10 : F 189 10 (.iload_n 0) 11 := ⟨1, by decide +kernel, rfl, rfl⟩
theorem F_189_11 : F 189 11 (.iconst 5) 12 := ⟨1, by decide +kernel, rfl, rfl⟩
theorem F_189_12 : F 189 12 (.if_icmp .ne 7) 15 := ⟨3, by decide +kernel, rfl, rfl⟩
theorem F_189_19 : F 189 19 (.iconst 5) 20 := ⟨1, by decide +kernel, rfl, rfl⟩
theorem F_189_20 : F 189 20 (.ireturn) 21 := ⟨1, by decide +kernel, rfl, rfl⟩
theorem rt_189 : m_r 189 = (some .int) := by decide +kernel
theorem F_189_15 : F 189 15 (.iconst 3) 16 := ⟨1, by decide +kernel, rfl, rfl⟩
theorem F_189_16 : F 189 16 (.goto 4) 19 := ⟨3, by decide +kernel, rfl, rfl⟩
theorem F_189_5 : F 189 5 (.bipush 7) 7 := ⟨2, by decide +kernel, rfl, rfl⟩
theorem bi_7 : (Int8.ofInt 7).toInt32 = Int32.ofInt 7 := by decide +kernel
theorem F_189_7 : F 189 7 (.goto 13) 10 := ⟨3, by decide +kernel, rfl, rfl⟩
theorem n_207 : m_n 207 = 1 := by decide +kernel
theorem F_207_0 : F 207 0 (.iload_n 0) 1 := ⟨1, by decide +kernel, rfl, rfl⟩
theorem F_207_1 : F 207 1 (.ifCond .ge 7) 4 := ⟨3, by decide +kernel, rfl, rfl⟩
theorem F_207_8 : F 207 8 (.iload_n 0) 9 := ⟨1, by decide +kernel, rfl, rfl⟩
theorem F_207_9 : F 207 9 (.bipush 20) 11 := ⟨2, by decide +kernel, rfl, rfl⟩
theorem bi_20 : (Int8.ofInt 20).toInt32 = Int32.ofInt 20 := by decide +kernel
theorem F_207_11 : F 207 11 (.if_icmp .le 8) 14 := ⟨3, by decide +kernel, rfl, rfl⟩
theorem F_207_19 : F 207 19 (.iload_n 0) 20 := ⟨1, by decide +kernel, rfl, rfl⟩
theorem F_207_20 : F 207 20 (.ireturn) 21 := ⟨1, by decide +kernel, rfl, rfl⟩
theorem rt_207 : m_r 207 = (some .int) := by decide +kernel
theorem F_207_14 : F 207 14 (.bipush 20) 16 := ⟨2, by decide +kernel, rfl, rfl⟩
theorem F_207_16 : F 207 16 (.goto 4) 19 := ⟨3, by decide +kernel, rfl, rfl⟩
theorem F_207_4 : F 207 4 (.iconst 0) 5 := ⟨1, by decide +kernel, rfl, rfl⟩
theorem F_207_5 : F 207 5 (.goto 15) 8 := ⟨3, by decide +kernel, rfl, rfl⟩
theorem t_X0_holdsFrom {X : List Int32} {d : Nat} {s : m_St} {P : Option Value → m_St → Prop} {a : Int}
    (l1 : inR a)
    (l2 : a < 0 → P (some (vI 5)) s)
    (l3 : 0 ≤ a → 6 ≤ a → P (some (vI 5)) s)
    (l4 : 0 ≤ a → a < 6 → P (some (vI (sx_1001 a))) s)
    : Cl X d 44 [vI a] s P := by
  refine Cl_of n_44 rfl ?_
  show Rn _ _ _ _ [some (vI a)] [] _ _
  refine r_ldI_n (m := 0) F_44_0 rfl ?_
  refine r_if (t := 18) F_44_1 rfl l1 ?_ ?_
  · intro e1
    replace e1 : a < 0 := e1
    refine r_gets (e := 1001) F_44_18 o_44 gl_0_62 rfl ?_
    refine r_iconst F_44_21 ?_
    refine r_ialdS (l := [5, 5, 5, 5, 7, 3]) (e := 5) F_44_22 rfl (by decide) (by decide) (by decide) (by decide) rfl ?_
    refine r_ireturn F_44_23 rt_44 ?_
    exact (l2 e1)
  · intro e2
    replace e2 : 0 ≤ a := (Int.not_lt.mp e2)
    refine r_ldI_n (m := 0) F_44_4 rfl ?_
    refine r_bipush F_44_5 bi_6 ?_
    refine r_icmp (t := 18) F_44_7 rfl l1 (by decide) ?_ ?_
    · intro e3
      replace e3 : 6 ≤ a := e3
      refine r_gets (e := 1001) F_44_18 o_44 gl_0_62 rfl ?_
      refine r_iconst F_44_21 ?_
      refine r_ialdS (l := [5, 5, 5, 5, 7, 3]) (e := 5) F_44_22 rfl (by decide) (by decide) (by decide) (by decide) rfl ?_
      refine r_ireturn F_44_23 rt_44 ?_
      exact (l3 e2 e3)
    · intro e4
      replace e4 : a < 6 := (Int.not_le.mp e4)
      refine r_gets (e := 1001) F_44_10 o_44 gl_0_62 rfl ?_
      refine r_ldI_n (m := 0) F_44_13 rfl ?_
      refine r_ialdS (l := [5, 5, 5, 5, 7, 3]) (e := (sx_1001 a)) F_44_14 rfl (by decide) e2 e4 (by decide) rfl ?_
      refine r_goto (t := 23) F_44_15 rfl ?_
      refine r_ireturn F_44_23 rt_44 ?_
      exact (l4 e2 e4)
theorem t_X0_movedAs {X : List Int32} {d : Nat} {s : m_St} {P : Option Value → m_St → Prop} {a : Int}
    (l1 : inR a)
    (l2 : a < 0 → P (some (vI 0)) s)
    (l3 : 0 ≤ a → 6 ≤ a → P (some (vI 0)) s)
    (l4 : 0 ≤ a → a < 6 → P (some (vI (sx_1003 a))) s)
    : Cl X d 61 [vI a] s P := by
  refine Cl_of n_61 rfl ?_
  show Rn _ _ _ _ [some (vI a)] [] _ _
  refine r_ldI_n (m := 0) F_61_0 rfl ?_
  refine r_if (t := 18) F_61_1 rfl l1 ?_ ?_
  · intro e1
    replace e1 : a < 0 := e1
    refine r_iconst F_61_18 ?_
    refine r_ireturn F_61_19 rt_61 ?_
    exact (l2 e1)
  · intro e2
    replace e2 : 0 ≤ a := (Int.not_lt.mp e2)
    refine r_ldI_n (m := 0) F_61_4 rfl ?_
    refine r_bipush F_61_5 bi_6 ?_
    refine r_icmp (t := 18) F_61_7 rfl l1 (by decide) ?_ ?_
    · intro e3
      replace e3 : 6 ≤ a := e3
      refine r_iconst F_61_18 ?_
      refine r_ireturn F_61_19 rt_61 ?_
      exact (l3 e2 e3)
    · intro e4
      replace e4 : a < 6 := (Int.not_le.mp e4)
      refine r_gets (e := 1003) F_61_10 o_61 gl_0_65 rfl ?_
      refine r_ldI_n (m := 0) F_61_13 rfl ?_
      refine r_ialdS (l := [0, 1, 2, 3, 1, 2]) (e := (sx_1003 a)) F_61_14 rfl (by decide) e2 e4 (by decide) rfl ?_
      refine r_goto (t := 19) F_61_15 rfl ?_
      refine r_ireturn F_61_19 rt_61 ?_
      exact (l4 e2 e4)
theorem t_X6_least {X : List Int32} {d : Nat} {s : m_St} {P : Option Value → m_St → Prop} {a : Int}
    (l1 : inR a)
    (l2 : ¬ a = 4 → ¬ a = 5 → P (some (vI 5)) s)
    (l3 : ¬ a = 4 → a = 5 → P (some (vI 3)) s)
    (l4 : a = 4 → P (some (vI 7)) s)
    : Cl X d 189 [vI a] s P := by
  refine Cl_of n_189 rfl ?_
  show Rn _ _ _ _ [some (vI a)] [] _ _
  refine r_ldI_n (m := 0) F_189_0 rfl ?_
  refine r_iconst F_189_1 ?_
  refine r_icmp (t := 10) F_189_2 rfl l1 (by decide) ?_ ?_
  · intro e1
    replace e1 : ¬ a = 4 := e1
    refine r_ldI_n (m := 0) F_189_10 rfl ?_
    refine r_iconst F_189_11 ?_
    refine r_icmp (t := 19) F_189_12 rfl l1 (by decide) ?_ ?_
    · intro e2
      replace e2 : ¬ a = 5 := e2
      refine r_iconst F_189_19 ?_
      refine r_ireturn F_189_20 rt_189 ?_
      exact (l2 e1 e2)
    · intro e3
      replace e3 : a = 5 := (Classical.not_not.mp e3)
      refine r_iconst F_189_15 ?_
      refine r_goto (t := 20) F_189_16 rfl ?_
      refine r_ireturn F_189_20 rt_189 ?_
      exact (l3 e1 e3)
  · intro e4
    replace e4 : a = 4 := (Classical.not_not.mp e4)
    refine r_bipush F_189_5 bi_7 ?_
    refine r_goto (t := 20) F_189_7 rfl ?_
    refine r_ireturn F_189_20 rt_189 ?_
    exact (l4 e4)
theorem t_X6_within {X : List Int32} {d : Nat} {s : m_St} {P : Option Value → m_St → Prop} {a : Int}
    (l1 : inR a)
    (l2 : 0 ≤ a → a ≤ 20 → P (some (vI a)) s)
    (l3 : 0 ≤ a → 20 < a → P (some (vI 20)) s)
    (l4 : a < 0 → P (some (vI 0)) s)
    : Cl X d 207 [vI a] s P := by
  refine Cl_of n_207 rfl ?_
  show Rn _ _ _ _ [some (vI a)] [] _ _
  refine r_ldI_n (m := 0) F_207_0 rfl ?_
  refine r_if (t := 8) F_207_1 rfl l1 ?_ ?_
  · intro e1
    replace e1 : 0 ≤ a := e1
    refine r_ldI_n (m := 0) F_207_8 rfl ?_
    refine r_bipush F_207_9 bi_20 ?_
    refine r_icmp (t := 19) F_207_11 rfl l1 (by decide) ?_ ?_
    · intro e2
      replace e2 : a ≤ 20 := e2
      refine r_ldI_n (m := 0) F_207_19 rfl ?_
      refine r_ireturn F_207_20 rt_207 ?_
      exact (l2 e1 e2)
    · intro e3
      replace e3 : 20 < a := (Int.not_le.mp e3)
      refine r_bipush F_207_14 bi_20 ?_
      refine r_goto (t := 20) F_207_16 rfl ?_
      refine r_ireturn F_207_20 rt_207 ?_
      exact (l3 e1 e3)
  · intro e4
    replace e4 : a < 0 := (Int.not_le.mp e4)
    refine r_iconst F_207_4 ?_
    refine r_goto (t := 20) F_207_5 rfl ?_
    refine r_ireturn F_207_20 rt_207 ?_
    exact (l4 e4)
