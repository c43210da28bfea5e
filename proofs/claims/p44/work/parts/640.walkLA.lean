/-! walks: the law, small ones -/
theorem n_157 : m_n 157 = 2 := by decide +kernel
theorem F_157_0 : F 157 0 (.iload_n 1) 1 := ⟨1, by decide +kernel, rfl, rfl⟩
theorem F_157_1 : F 157 1 (.aload_n 0) 2 := ⟨1, by decide +kernel, rfl, rfl⟩
theorem F_157_2 : F 157 2 (.arraylength) 3 := ⟨1, by decide +kernel, rfl, rfl⟩
theorem F_157_3 : F 157 3 (.if_icmp .ge 9) 6 := ⟨3, by decide +kernel, rfl, rfl⟩
theorem F_157_12 : F 157 12 (.ldc 7) 14 := ⟨2, by decide +kernel, rfl, rfl⟩
theorem ki_6_7 : m_k32.lookup (6, 7) = some (495397697, 2198) := by decide +kernel
theorem oi_495397697 : (495397697 : Int32) = Int32.ofInt 495397697 := by decide +kernel
theorem o_157 : m_o 157 = 6 := by decide +kernel
theorem F_157_14 : F 157 14 (.iload_n 1) 15 := ⟨1, by decide +kernel, rfl, rfl⟩
theorem F_157_15 : F 157 15 (.iconst 1) 16 := ⟨1, by decide +kernel, rfl, rfl⟩
theorem F_157_16 : F 157 16 (.iadd) 17 := ⟨1, by decide +kernel, rfl, rfl⟩
theorem F_157_17 : F 157 17 (.imul) 18 := ⟨1, by decide +kernel, rfl, rfl⟩
theorem F_157_18 : F 157 18 (.ireturn) 19 := ⟨1, by decide +kernel, rfl, rfl⟩
theorem rt_157 : m_r 157 = (some .int) := by decide +kernel
theorem F_157_6 : F 157 6 (.aload_n 0) 7 := ⟨1, by decide +kernel, rfl, rfl⟩
theorem F_157_7 : F 157 7 (.iload_n 1) 8 := ⟨1, by decide +kernel, rfl, rfl⟩
theorem F_157_8 : F 157 8 (.iaload) 9 := ⟨1, by decide +kernel, rfl, rfl⟩
theorem F_157_9 : F 157 9 (.goto 9) 12 := ⟨3, by decide +kernel, rfl, rfl⟩
theorem n_158 : m_n 158 = 2 := by decide +kernel
theorem F_158_0 : F 158 0 (.iload_n 0) 1 := ⟨1, by decide +kernel, rfl, rfl⟩
theorem F_158_1 : F 158 1 (.ldc 8) 3 := ⟨2, by decide +kernel, rfl, rfl⟩
theorem ki_6_8 : m_k32.lookup (6, 8) = some (2147483647, 2202) := by decide +kernel
theorem oi_2147483647 : (2147483647 : Int32) = Int32.ofInt 2147483647 := by decide +kernel
theorem o_158 : m_o 158 = 6 := by decide +kernel
theorem F_158_3 : F 158 3 (.iand) 4 := ⟨1, by decide +kernel, rfl, rfl⟩
theorem F_158_4 : F 158 4 (.iload_n 1) 5 := ⟨1, by decide +kernel, rfl, rfl⟩
theorem F_158_5 : F 158 5 (.irem) 6 := ⟨1, by decide +kernel, rfl, rfl⟩
theorem F_158_6 : F 158 6 (.ireturn) 7 := ⟨1, by decide +kernel, rfl, rfl⟩
theorem rt_158 : m_r 158 = (some .int) := by decide +kernel
theorem n_162 : m_n 162 = 1 := by decide +kernel
theorem F_162_0 : F 162 0 (.iload_n 0) 1 := ⟨1, by decide +kernel, rfl, rfl⟩
theorem F_162_1 : F 162 1 (.ifCond .ne 8) 4 := ⟨3, by decide +kernel, rfl, rfl⟩
theorem F_162_9 : F 162 9 (.iload_n 0) 10 := ⟨1, by decide +kernel, rfl, rfl⟩
theorem F_162_10 : F 162 10 (.iconst 1) 11 := ⟨1, by decide +kernel, rfl, rfl⟩
theorem F_162_11 : F 162 11 (.if_icmp .ne 8) 14 := ⟨3, by decide +kernel, rfl, rfl⟩
theorem F_162_19 : F 162 19 (.iload_n 0) 20 := ⟨1, by decide +kernel, rfl, rfl⟩
theorem F_162_20 : F 162 20 (.iconst 2) 21 := ⟨1, by decide +kernel, rfl, rfl⟩
theorem F_162_21 : F 162 21 (.if_icmp .ne 8) 24 := ⟨3, by decide +kernel, rfl, rfl⟩
theorem F_162_29 : F 162 29 (.iload_n 0) 30 := ⟨1, by decide +kernel, rfl, rfl⟩
theorem F_162_30 : F 162 30 (.iconst 3) 31 := ⟨1, by decide +kernel, rfl, rfl⟩
theorem F_162_31 : F 162 31 (.if_icmp .ne 8) 34 := ⟨3, by decide +kernel, rfl, rfl⟩
theorem F_162_39 : F 162 39 (.iload_n 0) 40 := ⟨1, by decide +kernel, rfl, rfl⟩
theorem F_162_40 : F 162 40 (.iconst 4) 41 := ⟨1, by decide +kernel, rfl, rfl⟩
theorem F_162_41 : F 162 41 (.if_icmp .ne 8) 44 := ⟨3, by decide +kernel, rfl, rfl⟩
theorem F_162_49 : F 162 49 (.bipush 104) 51 := ⟨2, by decide +kernel, rfl, rfl⟩
theorem bi_104 : (Int8.ofInt 104).toInt32 = Int32.ofInt 104 := by decide +kernel
theorem F_162_51 : F 162 51 (.ireturn) 52 := ⟨1, by decide +kernel, rfl, rfl⟩
theorem rt_162 : m_r 162 = (some .int) := by decide +kernel
theorem F_162_44 : F 162 44 (.bipush 99) 46 := ⟨2, by decide +kernel, rfl, rfl⟩
theorem bi_99 : (Int8.ofInt 99).toInt32 = Int32.ofInt 99 := by decide +kernel
theorem F_162_46 : F 162 46 (.goto 5) 49 := ⟨3, by decide +kernel, rfl, rfl⟩
theorem F_162_34 : F 162 34 (.bipush 109) 36 := ⟨2, by decide +kernel, rfl, rfl⟩
theorem bi_109 : (Int8.ofInt 109).toInt32 = Int32.ofInt 109 := by decide +kernel
theorem F_162_36 : F 162 36 (.goto 15) 39 := ⟨3, by decide +kernel, rfl, rfl⟩
theorem F_162_24 : F 162 24 (.bipush 97) 26 := ⟨2, by decide +kernel, rfl, rfl⟩
theorem bi_97 : (Int8.ofInt 97).toInt32 = Int32.ofInt 97 := by decide +kernel
theorem F_162_26 : F 162 26 (.goto 25) 29 := ⟨3, by decide +kernel, rfl, rfl⟩
theorem F_162_14 : F 162 14 (.bipush 98) 16 := ⟨2, by decide +kernel, rfl, rfl⟩
theorem bi_98 : (Int8.ofInt 98).toInt32 = Int32.ofInt 98 := by decide +kernel
theorem F_162_16 : F 162 16 (.goto 35) 19 := ⟨3, by decide +kernel, rfl, rfl⟩
theorem F_162_4 : F 162 4 (.bipush 103) 6 := ⟨2, by decide +kernel, rfl, rfl⟩
theorem bi_103 : (Int8.ofInt 103).toInt32 = Int32.ofInt 103 := by decide +kernel
theorem F_162_6 : F 162 6 (.goto 45) 9 := ⟨3, by decide +kernel, rfl, rfl⟩
theorem n_164 : m_n 164 = 6 := by decide +kernel
theorem F_164_0 : F 164 0 (.iload_n 0) 1 := ⟨1, by decide +kernel, rfl, rfl⟩
theorem F_164_1 : F 164 1 (.iconst 4) 2 := ⟨1, by decide +kernel, rfl, rfl⟩
theorem F_164_2 : F 164 2 (.if_icmp .ne 8) 5 := ⟨3, by decide +kernel, rfl, rfl⟩
theorem F_164_10 : F 164 10 (.iload_n 0) 11 := ⟨1, by decide +kernel, rfl, rfl⟩
theorem F_164_11 : F 164 11 (.iconst 5) 12 := ⟨1, by decide +kernel, rfl, rfl⟩
theorem F_164_12 : F 164 12 (.if_icmp .ne 7) 15 := ⟨3, by decide +kernel, rfl, rfl⟩
theorem F_164_19 : F 164 19 (.iconst 5) 20 := ⟨1, by decide +kernel, rfl, rfl⟩
theorem F_164_20 : F 164 20 (.istore_n 3) 21 := ⟨1, by decide +kernel, rfl, rfl⟩
theorem F_164_15 : F 164 15 (.iconst 3) 16 := ⟨1, by decide +kernel, rfl, rfl⟩
theorem F_164_16 : F 164 16 (.goto 4) 19 := ⟨3, by decide +kernel, rfl, rfl⟩
theorem F_164_5 : F 164 5 (.bipush 7) 7 := ⟨2, by decide +kernel, rfl, rfl⟩
theorem F_164_7 : F 164 7 (.goto 13) 10 := ⟨3, by decide +kernel, rfl, rfl⟩
theorem F_164_21 : F 164 21 (.iconst 0) 22 := ⟨1, by decide +kernel, rfl, rfl⟩
theorem F_164_22 : F 164 22 (.istore 4) 24 := ⟨2, by decide +kernel, rfl, rfl⟩
theorem F_164_24 : F 164 24 (.iconst 0) 25 := ⟨1, by decide +kernel, rfl, rfl⟩
theorem F_164_25 : F 164 25 (.istore 5) 27 := ⟨2, by decide +kernel, rfl, rfl⟩
theorem F_164_27 : F 164 27 (.iload 5) 29 := ⟨2, by decide +kernel, rfl, rfl⟩
theorem F_164_29 : F 164 29 (.iconst 4) 30 := ⟨1, by decide +kernel, rfl, rfl⟩
theorem F_164_30 : F 164 30 (.if_icmp .ge 32) 33 := ⟨3, by decide +kernel, rfl, rfl⟩
theorem F_164_33 : F 164 33 (.iload 4) 35 := ⟨2, by decide +kernel, rfl, rfl⟩
theorem F_164_35 : F 164 35 (.aload_n 1) 36 := ⟨1, by decide +kernel, rfl, rfl⟩
theorem F_164_36 : F 164 36 (.iload_n 2) 37 := ⟨1, by decide +kernel, rfl, rfl⟩
theorem F_164_37 : F 164 37 (.iload 5) 39 := ⟨2, by decide +kernel, rfl, rfl⟩
theorem F_164_39 : F 164 39 (.iadd) 40 := ⟨1, by decide +kernel, rfl, rfl⟩
theorem F_164_40 : F 164 40 (.iaload) 41 := ⟨1, by decide +kernel, rfl, rfl⟩
theorem F_164_41 : F 164 41 (.iload_n 3) 42 := ⟨1, by decide +kernel, rfl, rfl⟩
theorem F_164_42 : F 164 42 (.if_icmp .lt 10) 45 := ⟨3, by decide +kernel, rfl, rfl⟩
theorem F_164_52 : F 164 52 (.iconst 0) 53 := ⟨1, by decide +kernel, rfl, rfl⟩
theorem F_164_53 : F 164 53 (.ior) 54 := ⟨1, by decide +kernel, rfl, rfl⟩
theorem bo_ior_0_0 : iOr 0 0 = 0 := by decide +kernel
theorem F_164_54 : F 164 54 (.istore 4) 56 := ⟨2, by decide +kernel, rfl, rfl⟩
theorem F_164_56 : F 164 56 (.iinc 5 1) 59 := ⟨3, by decide +kernel, rfl, rfl⟩
theorem F_164_59 : F 164 59 (.goto (-32)) 62 := ⟨3, by decide +kernel, rfl, rfl⟩
theorem F_164_62 : F 164 62 (.iload 4) 64 := ⟨2, by decide +kernel, rfl, rfl⟩
theorem F_164_64 : F 164 64 (.ireturn) 65 := ⟨1, by decide +kernel, rfl, rfl⟩
theorem rt_164 : m_r 164 = (some .int) := by decide +kernel
theorem F_164_45 : F 164 45 (.iconst 1) 46 := ⟨1, by decide +kernel, rfl, rfl⟩
theorem F_164_46 : F 164 46 (.iload 5) 48 := ⟨2, by decide +kernel, rfl, rfl⟩
theorem F_164_48 : F 164 48 (.ishl) 49 := ⟨1, by decide +kernel, rfl, rfl⟩
theorem F_164_49 : F 164 49 (.goto 4) 52 := ⟨3, by decide +kernel, rfl, rfl⟩
theorem bo_ior_4_0 : iOr 4 0 = 4 := by decide +kernel
theorem bo_ior_2_0 : iOr 2 0 = 2 := by decide +kernel
theorem bo_ior_6_0 : iOr 6 0 = 6 := by decide +kernel
theorem bo_ior_1_0 : iOr 1 0 = 1 := by decide +kernel
theorem bo_ior_5_0 : iOr 5 0 = 5 := by decide +kernel
theorem bo_ior_3_0 : iOr 3 0 = 3 := by decide +kernel
theorem bo_ior_7_0 : iOr 7 0 = 7 := by decide +kernel
theorem n_168 : m_n 168 = 6 := by decide +kernel
theorem F_168_0 : F 168 0 (.iconst 0) 1 := ⟨1, by decide +kernel, rfl, rfl⟩
theorem F_168_1 : F 168 1 (.istore 4) 3 := ⟨2, by decide +kernel, rfl, rfl⟩
theorem F_168_3 : F 168 3 (.iconst 0) 4 := ⟨1, by decide +kernel, rfl, rfl⟩
theorem F_168_4 : F 168 4 (.istore 5) 6 := ⟨2, by decide +kernel, rfl, rfl⟩
theorem F_168_6 : F 168 6 (.iload 5) 8 := ⟨2, by decide +kernel, rfl, rfl⟩
theorem F_168_8 : F 168 8 (.iload_n 0) 9 := ⟨1, by decide +kernel, rfl, rfl⟩
theorem F_168_9 : F 168 9 (.if_icmp .ge 43) 12 := ⟨3, by decide +kernel, rfl, rfl⟩
theorem F_168_52 : F 168 52 (.iload 4) 54 := ⟨2, by decide +kernel, rfl, rfl⟩
theorem F_168_54 : F 168 54 (.ireturn) 55 := ⟨1, by decide +kernel, rfl, rfl⟩
theorem rt_168 : m_r 168 = (some .boolean) := by decide +kernel
theorem F_168_12 : F 168 12 (.iload 4) 14 := ⟨2, by decide +kernel, rfl, rfl⟩
theorem F_168_14 : F 168 14 (.ifCond .ne 25) 17 := ⟨3, by decide +kernel, rfl, rfl⟩
theorem F_168_39 : F 168 39 (.iconst 1) 40 := ⟨1, by decide +kernel, rfl, rfl⟩
theorem F_168_40 : F 168 40 (.goto 4) 43 := ⟨3, by decide +kernel, rfl, rfl⟩
theorem F_168_44 : F 168 44 (.istore 4) 46 := ⟨2, by decide +kernel, rfl, rfl⟩
theorem F_168_46 : F 168 46 (.iinc 5 1) 49 := ⟨3, by decide +kernel, rfl, rfl⟩
theorem F_168_49 : F 168 49 (.goto (-43)) 52 := ⟨3, by decide +kernel, rfl, rfl⟩
theorem F_168_17 : F 168 17 (.aload_n 1) 18 := ⟨1, by decide +kernel, rfl, rfl⟩
theorem F_168_18 : F 168 18 (.iconst 2) 19 := ⟨1, by decide +kernel, rfl, rfl⟩
theorem F_168_19 : F 168 19 (.iload 5) 21 := ⟨2, by decide +kernel, rfl, rfl⟩
theorem F_168_21 : F 168 21 (.imul) 22 := ⟨1, by decide +kernel, rfl, rfl⟩
theorem F_168_22 : F 168 22 (.iaload) 23 := ⟨1, by decide +kernel, rfl, rfl⟩
theorem F_168_23 : F 168 23 (.iload_n 2) 24 := ⟨1, by decide +kernel, rfl, rfl⟩
theorem F_168_24 : F 168 24 (.if_icmp .ne 19) 27 := ⟨3, by decide +kernel, rfl, rfl⟩
theorem F_168_43 : F 168 43 (.iconst 0) 44 := ⟨1, by decide +kernel, rfl, rfl⟩
theorem F_168_27 : F 168 27 (.aload_n 1) 28 := ⟨1, by decide +kernel, rfl, rfl⟩
theorem F_168_28 : F 168 28 (.iconst 2) 29 := ⟨1, by decide +kernel, rfl, rfl⟩
theorem F_168_29 : F 168 29 (.iload 5) 31 := ⟨2, by decide +kernel, rfl, rfl⟩
theorem F_168_31 : F 168 31 (.imul) 32 := ⟨1, by decide +kernel, rfl, rfl⟩
theorem F_168_32 : F 168 32 (.iconst 1) 33 := ⟨1, by decide +kernel, rfl, rfl⟩
theorem F_168_33 : F 168 33 (.iadd) 34 := ⟨1, by decide +kernel, rfl, rfl⟩
theorem F_168_34 : F 168 34 (.iaload) 35 := ⟨1, by decide +kernel, rfl, rfl⟩
theorem F_168_35 : F 168 35 (.iload_n 3) 36 := ⟨1, by decide +kernel, rfl, rfl⟩
theorem F_168_36 : F 168 36 (.if_icmp .ne 7) 39 := ⟨3, by decide +kernel, rfl, rfl⟩
theorem t_L_cell {X : m_X} {d : Nat} {s : m_St} {P : Option Value → m_St → Prop} {k : Int} (hX : X.1.length < 2147483648)
    (l1 : inR k)
    (l2 : inR (X.1.length : Int))
    (l3 : (X.1.length : Int) ≤ k → P (some (vI (495397697 * (k + 1)))) s)
    (l4 : k < (X.1.length : Int) → 0 ≤ k)
    (l5 : k < (X.1.length : Int) → P (some (vI (xs_ X.1 k))) s)
    : Cl X d 157 [vR 1000, vI k] s P := by
  refine Cl_of n_157 rfl ?_
  show Rn _ _ _ _ [some (vR 1000), some (vI k)] [] _ _
  refine r_ldI_n (m := 1) F_157_0 rfl ?_
  refine r_ldR_n (m := 0) F_157_1 rfl ?_
  refine r_alenX F_157_2 ?_
  refine r_icmp (t := 12) F_157_3 rfl l1 l2 ?_ ?_
  · intro e1
    replace e1 : (X.1.length : Int) ≤ k := e1
    refine r_ldcI2 F_157_12 o_157 ki_6_7 oi_495397697 ?_
    refine r_ldI_n (m := 1) F_157_14 rfl ?_
    refine r_iconst F_157_15 ?_
    refine r_iadd F_157_16 rfl ?_
    refine r_imul F_157_17 rfl ?_
    refine r_ireturn F_157_18 rt_157 ?_
    exact (l3 e1)
  · intro e2
    replace e2 : k < (X.1.length : Int) := (Int.not_le.mp e2)
    refine r_ldR_n (m := 0) F_157_6 rfl ?_
    refine r_ldI_n (m := 1) F_157_7 rfl ?_
    refine r_ialdX F_157_8 (l4 e2) e2 hX ?_
    refine r_goto (t := 18) F_157_9 rfl ?_
    refine r_ireturn F_157_18 rt_157 ?_
    exact (l5 e2)
theorem t_L_less {X : m_X} {d : Nat} {s : m_St} {P : Option Value → m_St → Prop} {v n : Int}
    (l1 : 0 < n)
    (l2 : 0 ≤ (iAnd v 2147483647))
    (l3 : inR n)
    (l4 : P (some (vI ((iAnd v 2147483647) % n))) s)
    : Cl X d 158 [vI v, vI n] s P := by
  refine Cl_of n_158 rfl ?_
  show Rn _ _ _ _ [some (vI v), some (vI n)] [] _ _
  refine r_ldI_n (m := 0) F_158_0 rfl ?_
  refine r_ldcI2 F_158_1 o_158 ki_6_8 oi_2147483647 ?_
  refine r_iand F_158_3 rfl ?_
  refine r_ldI_n (m := 1) F_158_4 rfl ?_
  refine r_irem F_158_5 (inR_iAnd _ _) l2 l3 l1 ?_
  refine r_ireturn F_158_6 rt_158 ?_
  exact l4
theorem t_L_letter {X : m_X} {d : Nat} {s : m_St} {P : Option Value → m_St → Prop} {k : Int}
    (l1 : inR k)
    (l2 : ¬ k = 0 → ¬ k = 1 → ¬ k = 2 → ¬ k = 3 → ¬ k = 4 → P (some (vI 104)) s)
    (l3 : ¬ k = 0 → ¬ k = 1 → ¬ k = 2 → ¬ k = 3 → k = 4 → P (some (vI 99)) s)
    (l4 : ¬ k = 0 → ¬ k = 1 → ¬ k = 2 → k = 3 → P (some (vI 109)) s)
    (l5 : ¬ k = 0 → ¬ k = 1 → k = 2 → P (some (vI 97)) s)
    (l6 : ¬ k = 0 → k = 1 → P (some (vI 98)) s)
    (l7 : k = 0 → P (some (vI 103)) s)
    : Cl X d 162 [vI k] s P := by
  refine Cl_of n_162 rfl ?_
  show Rn _ _ _ _ [some (vI k)] [] _ _
  refine r_ldI_n (m := 0) F_162_0 rfl ?_
  refine r_if (t := 9) F_162_1 rfl l1 ?_ ?_
  · intro e1
    replace e1 : ¬ k = 0 := e1
    refine r_ldI_n (m := 0) F_162_9 rfl ?_
    refine r_iconst F_162_10 ?_
    refine r_icmp (t := 19) F_162_11 rfl l1 (by decide) ?_ ?_
    · intro e2
      replace e2 : ¬ k = 1 := e2
      refine r_ldI_n (m := 0) F_162_19 rfl ?_
      refine r_iconst F_162_20 ?_
      refine r_icmp (t := 29) F_162_21 rfl l1 (by decide) ?_ ?_
      · intro e3
        replace e3 : ¬ k = 2 := e3
        refine r_ldI_n (m := 0) F_162_29 rfl ?_
        refine r_iconst F_162_30 ?_
        refine r_icmp (t := 39) F_162_31 rfl l1 (by decide) ?_ ?_
        · intro e4
          replace e4 : ¬ k = 3 := e4
          refine r_ldI_n (m := 0) F_162_39 rfl ?_
          refine r_iconst F_162_40 ?_
          refine r_icmp (t := 49) F_162_41 rfl l1 (by decide) ?_ ?_
          · intro e5
            replace e5 : ¬ k = 4 := e5
            refine r_bipush F_162_49 bi_104 ?_
            refine r_ireturn F_162_51 rt_162 ?_
            exact (l2 e1 e2 e3 e4 e5)
          · intro e6
            replace e6 : k = 4 := (Classical.not_not.mp e6)
            refine r_bipush F_162_44 bi_99 ?_
            refine r_goto (t := 51) F_162_46 rfl ?_
            refine r_ireturn F_162_51 rt_162 ?_
            exact (l3 e1 e2 e3 e4 e6)
        · intro e7
          replace e7 : k = 3 := (Classical.not_not.mp e7)
          refine r_bipush F_162_34 bi_109 ?_
          refine r_goto (t := 51) F_162_36 rfl ?_
          refine r_ireturn F_162_51 rt_162 ?_
          exact (l4 e1 e2 e3 e7)
      · intro e8
        replace e8 : k = 2 := (Classical.not_not.mp e8)
        refine r_bipush F_162_24 bi_97 ?_
        refine r_goto (t := 51) F_162_26 rfl ?_
        refine r_ireturn F_162_51 rt_162 ?_
        exact (l5 e1 e2 e8)
    · intro e9
      replace e9 : k = 1 := (Classical.not_not.mp e9)
      refine r_bipush F_162_14 bi_98 ?_
      refine r_goto (t := 51) F_162_16 rfl ?_
      refine r_ireturn F_162_51 rt_162 ?_
      exact (l6 e1 e9)
  · intro e10
    replace e10 : k = 0 := (Classical.not_not.mp e10)
    refine r_bipush F_162_4 bi_103 ?_
    refine r_goto (t := 51) F_162_6 rfl ?_
    refine r_ireturn F_162_51 rt_162 ?_
    exact (l7 e10)
theorem t_L_holds {X : m_X} {d : Nat} {s : m_St} {P : Option Value → m_St → Prop} {k p : Int} (hU : 2 ≤ X.2)
    (l1 : inR k)
    (l2 : ¬ k = 4 → ¬ k = 5 → Rn X d 164 21 [some (vI k), some (vR 78), some (vI p), some (vI 5), none, none] [] s P)
    (l3 : ¬ k = 4 → k = 5 → Rn X d 164 21 [some (vI k), some (vR 78), some (vI p), some (vI 3), none, none] [] s P)
    (l4 : k = 4 → Rn X d 164 21 [some (vI k), some (vR 78), some (vI p), some (vI 7), none, none] [] s P)
    : Cl X d 164 [vI k, vR 78, vI p] s P := by
  refine Cl_of n_164 rfl ?_
  show Rn _ _ _ _ [some (vI k), some (vR 78), some (vI p), none, none, none] [] _ _
  refine r_ldI_n (m := 0) F_164_0 rfl ?_
  refine r_iconst F_164_1 ?_
  refine r_icmp (t := 10) F_164_2 rfl l1 (by decide) ?_ ?_
  · intro e1
    replace e1 : ¬ k = 4 := e1
    refine r_ldI_n (m := 0) F_164_10 rfl ?_
    refine r_iconst F_164_11 ?_
    refine r_icmp (t := 19) F_164_12 rfl l1 (by decide) ?_ ?_
    · intro e2
      replace e2 : ¬ k = 5 := e2
      refine r_iconst F_164_19 ?_
      refine r_stI_n (m := 3) (L' := [some (vI k), some (vR 78), some (vI p), some (vI 5), none, none]) F_164_20 rfl rfl ?_
      exact (l2 e1 e2)
    · intro e3
      replace e3 : k = 5 := (Classical.not_not.mp e3)
      refine r_iconst F_164_15 ?_
      refine r_goto (t := 20) F_164_16 rfl ?_
      refine r_stI_n (m := 3) (L' := [some (vI k), some (vR 78), some (vI p), some (vI 3), none, none]) F_164_20 rfl rfl ?_
      exact (l3 e1 e3)
  · intro e4
    replace e4 : k = 4 := (Classical.not_not.mp e4)
    refine r_bipush F_164_5 bi_7 ?_
    refine r_goto (t := 20) F_164_7 rfl ?_
    refine r_stI_n (m := 3) (L' := [some (vI k), some (vR 78), some (vI p), some (vI 7), none, none]) F_164_20 rfl rfl ?_
    exact (l4 e4)
theorem t_L_holds_21 {X : m_X} {d : Nat} {s : m_St} {P : Option Value → m_St → Prop} {k p h : Int} (hU : 2 ≤ X.2)
    (l1 : 0 ≤ p)
    (l2 : p < 30)
    (l3 : inR (s 78 p))
    (l4 : inR h)
    (l5 : (s 78 p) < h → 0 ≤ (p + 1))
    (l6 : (s 78 p) < h → (p + 1) < 30)
    (l7 : (s 78 p) < h → inR (s 78 (p + 1)))
    (l8 : (s 78 p) < h → (s 78 (p + 1)) < h → 0 ≤ (p + 2))
    (l9 : (s 78 p) < h → (s 78 (p + 1)) < h → (p + 2) < 30)
    (l10 : (s 78 p) < h → (s 78 (p + 1)) < h → inR (s 78 (p + 2)))
    (l11 : (s 78 p) < h → (s 78 (p + 1)) < h → (s 78 (p + 2)) < h → 0 ≤ (p + 3))
    (l12 : (s 78 p) < h → (s 78 (p + 1)) < h → (s 78 (p + 2)) < h → (p + 3) < 30)
    (l13 : (s 78 p) < h → (s 78 (p + 1)) < h → (s 78 (p + 2)) < h → inR (s 78 (p + 3)))
    (l14 : (s 78 p) < h → (s 78 (p + 1)) < h → (s 78 (p + 2)) < h → (s 78 (p + 3)) < h → P (some (vI 0)) s)
    (l15 : (s 78 p) < h → (s 78 (p + 1)) < h → (s 78 (p + 2)) < h → h ≤ (s 78 (p + 3)) → P (some (vI 8)) s)
    (l16 : (s 78 p) < h → (s 78 (p + 1)) < h → h ≤ (s 78 (p + 2)) → 0 ≤ (p + 3))
    (l17 : (s 78 p) < h → (s 78 (p + 1)) < h → h ≤ (s 78 (p + 2)) → (p + 3) < 30)
    (l18 : (s 78 p) < h → (s 78 (p + 1)) < h → h ≤ (s 78 (p + 2)) → inR (s 78 (p + 3)))
    (l19 : (s 78 p) < h → (s 78 (p + 1)) < h → h ≤ (s 78 (p + 2)) → (s 78 (p + 3)) < h → P (some (vI 4)) s)
    (l20 : (s 78 p) < h → (s 78 (p + 1)) < h → h ≤ (s 78 (p + 2)) → h ≤ (s 78 (p + 3)) → P (some (vI 12)) s)
    (l21 : (s 78 p) < h → h ≤ (s 78 (p + 1)) → 0 ≤ (p + 2))
    (l22 : (s 78 p) < h → h ≤ (s 78 (p + 1)) → (p + 2) < 30)
    (l23 : (s 78 p) < h → h ≤ (s 78 (p + 1)) → inR (s 78 (p + 2)))
    (l24 : (s 78 p) < h → h ≤ (s 78 (p + 1)) → (s 78 (p + 2)) < h → 0 ≤ (p + 3))
    (l25 : (s 78 p) < h → h ≤ (s 78 (p + 1)) → (s 78 (p + 2)) < h → (p + 3) < 30)
    (l26 : (s 78 p) < h → h ≤ (s 78 (p + 1)) → (s 78 (p + 2)) < h → inR (s 78 (p + 3)))
    (l27 : (s 78 p) < h → h ≤ (s 78 (p + 1)) → (s 78 (p + 2)) < h → (s 78 (p + 3)) < h → P (some (vI 2)) s)
    (l28 : (s 78 p) < h → h ≤ (s 78 (p + 1)) → (s 78 (p + 2)) < h → h ≤ (s 78 (p + 3)) → P (some (vI 10)) s)
    (l29 : (s 78 p) < h → h ≤ (s 78 (p + 1)) → h ≤ (s 78 (p + 2)) → 0 ≤ (p + 3))
    (l30 : (s 78 p) < h → h ≤ (s 78 (p + 1)) → h ≤ (s 78 (p + 2)) → (p + 3) < 30)
    (l31 : (s 78 p) < h → h ≤ (s 78 (p + 1)) → h ≤ (s 78 (p + 2)) → inR (s 78 (p + 3)))
    (l32 : (s 78 p) < h → h ≤ (s 78 (p + 1)) → h ≤ (s 78 (p + 2)) → (s 78 (p + 3)) < h → P (some (vI 6)) s)
    (l33 : (s 78 p) < h → h ≤ (s 78 (p + 1)) → h ≤ (s 78 (p + 2)) → h ≤ (s 78 (p + 3)) → P (some (vI 14)) s)
    (l34 : h ≤ (s 78 p) → 0 ≤ (p + 1))
    (l35 : h ≤ (s 78 p) → (p + 1) < 30)
    (l36 : h ≤ (s 78 p) → inR (s 78 (p + 1)))
    (l37 : h ≤ (s 78 p) → (s 78 (p + 1)) < h → 0 ≤ (p + 2))
    (l38 : h ≤ (s 78 p) → (s 78 (p + 1)) < h → (p + 2) < 30)
    (l39 : h ≤ (s 78 p) → (s 78 (p + 1)) < h → inR (s 78 (p + 2)))
    (l40 : h ≤ (s 78 p) → (s 78 (p + 1)) < h → (s 78 (p + 2)) < h → 0 ≤ (p + 3))
    (l41 : h ≤ (s 78 p) → (s 78 (p + 1)) < h → (s 78 (p + 2)) < h → (p + 3) < 30)
    (l42 : h ≤ (s 78 p) → (s 78 (p + 1)) < h → (s 78 (p + 2)) < h → inR (s 78 (p + 3)))
    (l43 : h ≤ (s 78 p) → (s 78 (p + 1)) < h → (s 78 (p + 2)) < h → (s 78 (p + 3)) < h → P (some (vI 1)) s)
    (l44 : h ≤ (s 78 p) → (s 78 (p + 1)) < h → (s 78 (p + 2)) < h → h ≤ (s 78 (p + 3)) → P (some (vI 9)) s)
    (l45 : h ≤ (s 78 p) → (s 78 (p + 1)) < h → h ≤ (s 78 (p + 2)) → 0 ≤ (p + 3))
    (l46 : h ≤ (s 78 p) → (s 78 (p + 1)) < h → h ≤ (s 78 (p + 2)) → (p + 3) < 30)
    (l47 : h ≤ (s 78 p) → (s 78 (p + 1)) < h → h ≤ (s 78 (p + 2)) → inR (s 78 (p + 3)))
    (l48 : h ≤ (s 78 p) → (s 78 (p + 1)) < h → h ≤ (s 78 (p + 2)) → (s 78 (p + 3)) < h → P (some (vI 5)) s)
    (l49 : h ≤ (s 78 p) → (s 78 (p + 1)) < h → h ≤ (s 78 (p + 2)) → h ≤ (s 78 (p + 3)) → P (some (vI 13)) s)
    (l50 : h ≤ (s 78 p) → h ≤ (s 78 (p + 1)) → 0 ≤ (p + 2))
    (l51 : h ≤ (s 78 p) → h ≤ (s 78 (p + 1)) → (p + 2) < 30)
    (l52 : h ≤ (s 78 p) → h ≤ (s 78 (p + 1)) → inR (s 78 (p + 2)))
    (l53 : h ≤ (s 78 p) → h ≤ (s 78 (p + 1)) → (s 78 (p + 2)) < h → 0 ≤ (p + 3))
    (l54 : h ≤ (s 78 p) → h ≤ (s 78 (p + 1)) → (s 78 (p + 2)) < h → (p + 3) < 30)
    (l55 : h ≤ (s 78 p) → h ≤ (s 78 (p + 1)) → (s 78 (p + 2)) < h → inR (s 78 (p + 3)))
    (l56 : h ≤ (s 78 p) → h ≤ (s 78 (p + 1)) → (s 78 (p + 2)) < h → (s 78 (p + 3)) < h → P (some (vI 3)) s)
    (l57 : h ≤ (s 78 p) → h ≤ (s 78 (p + 1)) → (s 78 (p + 2)) < h → h ≤ (s 78 (p + 3)) → P (some (vI 11)) s)
    (l58 : h ≤ (s 78 p) → h ≤ (s 78 (p + 1)) → h ≤ (s 78 (p + 2)) → 0 ≤ (p + 3))
    (l59 : h ≤ (s 78 p) → h ≤ (s 78 (p + 1)) → h ≤ (s 78 (p + 2)) → (p + 3) < 30)
    (l60 : h ≤ (s 78 p) → h ≤ (s 78 (p + 1)) → h ≤ (s 78 (p + 2)) → inR (s 78 (p + 3)))
    (l61 : h ≤ (s 78 p) → h ≤ (s 78 (p + 1)) → h ≤ (s 78 (p + 2)) → (s 78 (p + 3)) < h → P (some (vI 7)) s)
    (l62 : h ≤ (s 78 p) → h ≤ (s 78 (p + 1)) → h ≤ (s 78 (p + 2)) → h ≤ (s 78 (p + 3)) → P (some (vI 15)) s)
    : Rn X d 164 21 [some (vI k), some (vR 78), some (vI p), some (vI h), none, none] [] s P := by
  refine r_iconst F_164_21 ?_
  refine r_stI (m := 4) (L' := [some (vI k), some (vR 78), some (vI p), some (vI h), some (vI 0), none]) F_164_22 rfl rfl ?_
  refine r_iconst F_164_24 ?_
  refine r_stI (m := 5) (L' := [some (vI k), some (vR 78), some (vI p), some (vI h), some (vI 0), some (vI 0)]) F_164_25 rfl rfl ?_
  refine r_ldI (m := 5) F_164_27 rfl ?_
  refine r_iconst F_164_29 ?_
  refine r_icmpF (t := 62) F_164_30 rfl (by decide) (by decide) (by show ¬ ((4 : Int) ≤ 0); decide) ?_
  refine r_ldI (m := 4) F_164_33 rfl ?_
  refine r_ldR_n (m := 1) F_164_35 rfl ?_
  refine r_ldI_n (m := 2) F_164_36 rfl ?_
  refine r_ldI (m := 5) F_164_37 rfl ?_
  refine r_iadd (e := p) F_164_39 (Int.add_zero _) ?_
  refine r_ialdU (c := 1) (len := 30) (e := (s 78 p)) F_164_40 rfl rfl (Nat.lt_of_lt_of_le (by decide) hU) (by decide) (by decide) l1 l2 rfl ?_
  refine r_ldI_n (m := 3) F_164_41 rfl ?_
  refine r_icmp (t := 52) F_164_42 rfl l3 l4 ?_ ?_
  · intro e1
    replace e1 : (s 78 p) < h := e1
    refine r_iconst F_164_52 ?_
    refine r_ior (e := 0) F_164_53 bo_ior_0_0 ?_
    refine r_stI (m := 4) (L' := [some (vI k), some (vR 78), some (vI p), some (vI h), some (vI 0), some (vI 0)]) F_164_54 rfl rfl ?_
    refine r_iinc (m := 5) (e := 1) (L' := [some (vI k), some (vR 78), some (vI p), some (vI h), some (vI 0), some (vI 1)]) F_164_56 rfl rfl rfl rfl ?_
    refine r_goto (t := 27) F_164_59 rfl ?_
    refine r_ldI (m := 5) F_164_27 rfl ?_
    refine r_iconst F_164_29 ?_
    refine r_icmpF (t := 62) F_164_30 rfl (by decide) (by decide) (by show ¬ ((4 : Int) ≤ 1); decide) ?_
    refine r_ldI (m := 4) F_164_33 rfl ?_
    refine r_ldR_n (m := 1) F_164_35 rfl ?_
    refine r_ldI_n (m := 2) F_164_36 rfl ?_
    refine r_ldI (m := 5) F_164_37 rfl ?_
    refine r_iadd F_164_39 rfl ?_
    refine r_ialdU (c := 1) (len := 30) (e := (s 78 (p + 1))) F_164_40 rfl rfl (Nat.lt_of_lt_of_le (by decide) hU) (by decide) (by decide) (l5 e1) (l6 e1) rfl ?_
    refine r_ldI_n (m := 3) F_164_41 rfl ?_
    refine r_icmp (t := 52) F_164_42 rfl (l7 e1) l4 ?_ ?_
    · intro e2
      replace e2 : (s 78 (p + 1)) < h := e2
      refine r_iconst F_164_52 ?_
      refine r_ior (e := 0) F_164_53 bo_ior_0_0 ?_
      refine r_stI (m := 4) (L' := [some (vI k), some (vR 78), some (vI p), some (vI h), some (vI 0), some (vI 1)]) F_164_54 rfl rfl ?_
      refine r_iinc (m := 5) (e := 2) (L' := [some (vI k), some (vR 78), some (vI p), some (vI h), some (vI 0), some (vI 2)]) F_164_56 rfl rfl rfl rfl ?_
      refine r_goto (t := 27) F_164_59 rfl ?_
      refine r_ldI (m := 5) F_164_27 rfl ?_
      refine r_iconst F_164_29 ?_
      refine r_icmpF (t := 62) F_164_30 rfl (by decide) (by decide) (by show ¬ ((4 : Int) ≤ 2); decide) ?_
      refine r_ldI (m := 4) F_164_33 rfl ?_
      refine r_ldR_n (m := 1) F_164_35 rfl ?_
      refine r_ldI_n (m := 2) F_164_36 rfl ?_
      refine r_ldI (m := 5) F_164_37 rfl ?_
      refine r_iadd F_164_39 rfl ?_
      refine r_ialdU (c := 1) (len := 30) (e := (s 78 (p + 2))) F_164_40 rfl rfl (Nat.lt_of_lt_of_le (by decide) hU) (by decide) (by decide) (l8 e1 e2) (l9 e1 e2) rfl ?_
      refine r_ldI_n (m := 3) F_164_41 rfl ?_
      refine r_icmp (t := 52) F_164_42 rfl (l10 e1 e2) l4 ?_ ?_
      · intro e3
        replace e3 : (s 78 (p + 2)) < h := e3
        refine r_iconst F_164_52 ?_
        refine r_ior (e := 0) F_164_53 bo_ior_0_0 ?_
        refine r_stI (m := 4) (L' := [some (vI k), some (vR 78), some (vI p), some (vI h), some (vI 0), some (vI 2)]) F_164_54 rfl rfl ?_
        refine r_iinc (m := 5) (e := 3) (L' := [some (vI k), some (vR 78), some (vI p), some (vI h), some (vI 0), some (vI 3)]) F_164_56 rfl rfl rfl rfl ?_
        refine r_goto (t := 27) F_164_59 rfl ?_
        refine r_ldI (m := 5) F_164_27 rfl ?_
        refine r_iconst F_164_29 ?_
        refine r_icmpF (t := 62) F_164_30 rfl (by decide) (by decide) (by show ¬ ((4 : Int) ≤ 3); decide) ?_
        refine r_ldI (m := 4) F_164_33 rfl ?_
        refine r_ldR_n (m := 1) F_164_35 rfl ?_
        refine r_ldI_n (m := 2) F_164_36 rfl ?_
        refine r_ldI (m := 5) F_164_37 rfl ?_
        refine r_iadd F_164_39 rfl ?_
        refine r_ialdU (c := 1) (len := 30) (e := (s 78 (p + 3))) F_164_40 rfl rfl (Nat.lt_of_lt_of_le (by decide) hU) (by decide) (by decide) (l11 e1 e2 e3) (l12 e1 e2 e3) rfl ?_
        refine r_ldI_n (m := 3) F_164_41 rfl ?_
        refine r_icmp (t := 52) F_164_42 rfl (l13 e1 e2 e3) l4 ?_ ?_
        · intro e4
          replace e4 : (s 78 (p + 3)) < h := e4
          refine r_iconst F_164_52 ?_
          refine r_ior (e := 0) F_164_53 bo_ior_0_0 ?_
          refine r_stI (m := 4) (L' := [some (vI k), some (vR 78), some (vI p), some (vI h), some (vI 0), some (vI 3)]) F_164_54 rfl rfl ?_
          refine r_iinc (m := 5) (e := 4) (L' := [some (vI k), some (vR 78), some (vI p), some (vI h), some (vI 0), some (vI 4)]) F_164_56 rfl rfl rfl rfl ?_
          refine r_goto (t := 27) F_164_59 rfl ?_
          refine r_ldI (m := 5) F_164_27 rfl ?_
          refine r_iconst F_164_29 ?_
          refine r_icmpT (t := 62) F_164_30 rfl (by decide) (by decide) (by show (4 : Int) ≤ 4; decide) ?_
          refine r_ldI (m := 4) F_164_62 rfl ?_
          refine r_ireturn F_164_64 rt_164 ?_
          exact (l14 e1 e2 e3 e4)
        · intro e5
          replace e5 : h ≤ (s 78 (p + 3)) := (Int.not_lt.mp e5)
          refine r_iconst F_164_45 ?_
          refine r_ldI (m := 5) F_164_46 rfl ?_
          refine r_ishl (e := 8) F_164_48 bo_ishl_1_3 ?_
          refine r_goto (t := 53) F_164_49 rfl ?_
          refine r_ior (e := 8) F_164_53 bo_ior_0_8 ?_
          refine r_stI (m := 4) (L' := [some (vI k), some (vR 78), some (vI p), some (vI h), some (vI 8), some (vI 3)]) F_164_54 rfl rfl ?_
          refine r_iinc (m := 5) (e := 4) (L' := [some (vI k), some (vR 78), some (vI p), some (vI h), some (vI 8), some (vI 4)]) F_164_56 rfl rfl rfl rfl ?_
          refine r_goto (t := 27) F_164_59 rfl ?_
          refine r_ldI (m := 5) F_164_27 rfl ?_
          refine r_iconst F_164_29 ?_
          refine r_icmpT (t := 62) F_164_30 rfl (by decide) (by decide) (by show (4 : Int) ≤ 4; decide) ?_
          refine r_ldI (m := 4) F_164_62 rfl ?_
          refine r_ireturn F_164_64 rt_164 ?_
          exact (l15 e1 e2 e3 e5)
      · intro e6
        replace e6 : h ≤ (s 78 (p + 2)) := (Int.not_lt.mp e6)
        refine r_iconst F_164_45 ?_
        refine r_ldI (m := 5) F_164_46 rfl ?_
        refine r_ishl (e := 4) F_164_48 bo_ishl_1_2 ?_
        refine r_goto (t := 53) F_164_49 rfl ?_
        refine r_ior (e := 4) F_164_53 bo_ior_0_4 ?_
        refine r_stI (m := 4) (L' := [some (vI k), some (vR 78), some (vI p), some (vI h), some (vI 4), some (vI 2)]) F_164_54 rfl rfl ?_
        refine r_iinc (m := 5) (e := 3) (L' := [some (vI k), some (vR 78), some (vI p), some (vI h), some (vI 4), some (vI 3)]) F_164_56 rfl rfl rfl rfl ?_
        refine r_goto (t := 27) F_164_59 rfl ?_
        refine r_ldI (m := 5) F_164_27 rfl ?_
        refine r_iconst F_164_29 ?_
        refine r_icmpF (t := 62) F_164_30 rfl (by decide) (by decide) (by show ¬ ((4 : Int) ≤ 3); decide) ?_
        refine r_ldI (m := 4) F_164_33 rfl ?_
        refine r_ldR_n (m := 1) F_164_35 rfl ?_
        refine r_ldI_n (m := 2) F_164_36 rfl ?_
        refine r_ldI (m := 5) F_164_37 rfl ?_
        refine r_iadd F_164_39 rfl ?_
        refine r_ialdU (c := 1) (len := 30) (e := (s 78 (p + 3))) F_164_40 rfl rfl (Nat.lt_of_lt_of_le (by decide) hU) (by decide) (by decide) (l16 e1 e2 e6) (l17 e1 e2 e6) rfl ?_
        refine r_ldI_n (m := 3) F_164_41 rfl ?_
        refine r_icmp (t := 52) F_164_42 rfl (l18 e1 e2 e6) l4 ?_ ?_
        · intro e7
          replace e7 : (s 78 (p + 3)) < h := e7
          refine r_iconst F_164_52 ?_
          refine r_ior (e := 4) F_164_53 bo_ior_4_0 ?_
          refine r_stI (m := 4) (L' := [some (vI k), some (vR 78), some (vI p), some (vI h), some (vI 4), some (vI 3)]) F_164_54 rfl rfl ?_
          refine r_iinc (m := 5) (e := 4) (L' := [some (vI k), some (vR 78), some (vI p), some (vI h), some (vI 4), some (vI 4)]) F_164_56 rfl rfl rfl rfl ?_
          refine r_goto (t := 27) F_164_59 rfl ?_
          refine r_ldI (m := 5) F_164_27 rfl ?_
          refine r_iconst F_164_29 ?_
          refine r_icmpT (t := 62) F_164_30 rfl (by decide) (by decide) (by show (4 : Int) ≤ 4; decide) ?_
          refine r_ldI (m := 4) F_164_62 rfl ?_
          refine r_ireturn F_164_64 rt_164 ?_
          exact (l19 e1 e2 e6 e7)
        · intro e8
          replace e8 : h ≤ (s 78 (p + 3)) := (Int.not_lt.mp e8)
          refine r_iconst F_164_45 ?_
          refine r_ldI (m := 5) F_164_46 rfl ?_
          refine r_ishl (e := 8) F_164_48 bo_ishl_1_3 ?_
          refine r_goto (t := 53) F_164_49 rfl ?_
          refine r_ior (e := 12) F_164_53 bo_ior_4_8 ?_
          refine r_stI (m := 4) (L' := [some (vI k), some (vR 78), some (vI p), some (vI h), some (vI 12), some (vI 3)]) F_164_54 rfl rfl ?_
          refine r_iinc (m := 5) (e := 4) (L' := [some (vI k), some (vR 78), some (vI p), some (vI h), some (vI 12), some (vI 4)]) F_164_56 rfl rfl rfl rfl ?_
          refine r_goto (t := 27) F_164_59 rfl ?_
          refine r_ldI (m := 5) F_164_27 rfl ?_
          refine r_iconst F_164_29 ?_
          refine r_icmpT (t := 62) F_164_30 rfl (by decide) (by decide) (by show (4 : Int) ≤ 4; decide) ?_
          refine r_ldI (m := 4) F_164_62 rfl ?_
          refine r_ireturn F_164_64 rt_164 ?_
          exact (l20 e1 e2 e6 e8)
    · intro e9
      replace e9 : h ≤ (s 78 (p + 1)) := (Int.not_lt.mp e9)
      refine r_iconst F_164_45 ?_
      refine r_ldI (m := 5) F_164_46 rfl ?_
      refine r_ishl (e := 2) F_164_48 bo_ishl_1_1 ?_
      refine r_goto (t := 53) F_164_49 rfl ?_
      refine r_ior (e := 2) F_164_53 bo_ior_0_2 ?_
      refine r_stI (m := 4) (L' := [some (vI k), some (vR 78), some (vI p), some (vI h), some (vI 2), some (vI 1)]) F_164_54 rfl rfl ?_
      refine r_iinc (m := 5) (e := 2) (L' := [some (vI k), some (vR 78), some (vI p), some (vI h), some (vI 2), some (vI 2)]) F_164_56 rfl rfl rfl rfl ?_
      refine r_goto (t := 27) F_164_59 rfl ?_
      refine r_ldI (m := 5) F_164_27 rfl ?_
      refine r_iconst F_164_29 ?_
      refine r_icmpF (t := 62) F_164_30 rfl (by decide) (by decide) (by show ¬ ((4 : Int) ≤ 2); decide) ?_
      refine r_ldI (m := 4) F_164_33 rfl ?_
      refine r_ldR_n (m := 1) F_164_35 rfl ?_
      refine r_ldI_n (m := 2) F_164_36 rfl ?_
      refine r_ldI (m := 5) F_164_37 rfl ?_
      refine r_iadd F_164_39 rfl ?_
      refine r_ialdU (c := 1) (len := 30) (e := (s 78 (p + 2))) F_164_40 rfl rfl (Nat.lt_of_lt_of_le (by decide) hU) (by decide) (by decide) (l21 e1 e9) (l22 e1 e9) rfl ?_
      refine r_ldI_n (m := 3) F_164_41 rfl ?_
      refine r_icmp (t := 52) F_164_42 rfl (l23 e1 e9) l4 ?_ ?_
      · intro e10
        replace e10 : (s 78 (p + 2)) < h := e10
        refine r_iconst F_164_52 ?_
        refine r_ior (e := 2) F_164_53 bo_ior_2_0 ?_
        refine r_stI (m := 4) (L' := [some (vI k), some (vR 78), some (vI p), some (vI h), some (vI 2), some (vI 2)]) F_164_54 rfl rfl ?_
        refine r_iinc (m := 5) (e := 3) (L' := [some (vI k), some (vR 78), some (vI p), some (vI h), some (vI 2), some (vI 3)]) F_164_56 rfl rfl rfl rfl ?_
        refine r_goto (t := 27) F_164_59 rfl ?_
        refine r_ldI (m := 5) F_164_27 rfl ?_
        refine r_iconst F_164_29 ?_
        refine r_icmpF (t := 62) F_164_30 rfl (by decide) (by decide) (by show ¬ ((4 : Int) ≤ 3); decide) ?_
        refine r_ldI (m := 4) F_164_33 rfl ?_
        refine r_ldR_n (m := 1) F_164_35 rfl ?_
        refine r_ldI_n (m := 2) F_164_36 rfl ?_
        refine r_ldI (m := 5) F_164_37 rfl ?_
        refine r_iadd F_164_39 rfl ?_
        refine r_ialdU (c := 1) (len := 30) (e := (s 78 (p + 3))) F_164_40 rfl rfl (Nat.lt_of_lt_of_le (by decide) hU) (by decide) (by decide) (l24 e1 e9 e10) (l25 e1 e9 e10) rfl ?_
        refine r_ldI_n (m := 3) F_164_41 rfl ?_
        refine r_icmp (t := 52) F_164_42 rfl (l26 e1 e9 e10) l4 ?_ ?_
        · intro e11
          replace e11 : (s 78 (p + 3)) < h := e11
          refine r_iconst F_164_52 ?_
          refine r_ior (e := 2) F_164_53 bo_ior_2_0 ?_
          refine r_stI (m := 4) (L' := [some (vI k), some (vR 78), some (vI p), some (vI h), some (vI 2), some (vI 3)]) F_164_54 rfl rfl ?_
          refine r_iinc (m := 5) (e := 4) (L' := [some (vI k), some (vR 78), some (vI p), some (vI h), some (vI 2), some (vI 4)]) F_164_56 rfl rfl rfl rfl ?_
          refine r_goto (t := 27) F_164_59 rfl ?_
          refine r_ldI (m := 5) F_164_27 rfl ?_
          refine r_iconst F_164_29 ?_
          refine r_icmpT (t := 62) F_164_30 rfl (by decide) (by decide) (by show (4 : Int) ≤ 4; decide) ?_
          refine r_ldI (m := 4) F_164_62 rfl ?_
          refine r_ireturn F_164_64 rt_164 ?_
          exact (l27 e1 e9 e10 e11)
        · intro e12
          replace e12 : h ≤ (s 78 (p + 3)) := (Int.not_lt.mp e12)
          refine r_iconst F_164_45 ?_
          refine r_ldI (m := 5) F_164_46 rfl ?_
          refine r_ishl (e := 8) F_164_48 bo_ishl_1_3 ?_
          refine r_goto (t := 53) F_164_49 rfl ?_
          refine r_ior (e := 10) F_164_53 bo_ior_2_8 ?_
          refine r_stI (m := 4) (L' := [some (vI k), some (vR 78), some (vI p), some (vI h), some (vI 10), some (vI 3)]) F_164_54 rfl rfl ?_
          refine r_iinc (m := 5) (e := 4) (L' := [some (vI k), some (vR 78), some (vI p), some (vI h), some (vI 10), some (vI 4)]) F_164_56 rfl rfl rfl rfl ?_
          refine r_goto (t := 27) F_164_59 rfl ?_
          refine r_ldI (m := 5) F_164_27 rfl ?_
          refine r_iconst F_164_29 ?_
          refine r_icmpT (t := 62) F_164_30 rfl (by decide) (by decide) (by show (4 : Int) ≤ 4; decide) ?_
          refine r_ldI (m := 4) F_164_62 rfl ?_
          refine r_ireturn F_164_64 rt_164 ?_
          exact (l28 e1 e9 e10 e12)
      · intro e13
        replace e13 : h ≤ (s 78 (p + 2)) := (Int.not_lt.mp e13)
        refine r_iconst F_164_45 ?_
        refine r_ldI (m := 5) F_164_46 rfl ?_
        refine r_ishl (e := 4) F_164_48 bo_ishl_1_2 ?_
        refine r_goto (t := 53) F_164_49 rfl ?_
        refine r_ior (e := 6) F_164_53 bo_ior_2_4 ?_
        refine r_stI (m := 4) (L' := [some (vI k), some (vR 78), some (vI p), some (vI h), some (vI 6), some (vI 2)]) F_164_54 rfl rfl ?_
        refine r_iinc (m := 5) (e := 3) (L' := [some (vI k), some (vR 78), some (vI p), some (vI h), some (vI 6), some (vI 3)]) F_164_56 rfl rfl rfl rfl ?_
        refine r_goto (t := 27) F_164_59 rfl ?_
        refine r_ldI (m := 5) F_164_27 rfl ?_
        refine r_iconst F_164_29 ?_
        refine r_icmpF (t := 62) F_164_30 rfl (by decide) (by decide) (by show ¬ ((4 : Int) ≤ 3); decide) ?_
        refine r_ldI (m := 4) F_164_33 rfl ?_
        refine r_ldR_n (m := 1) F_164_35 rfl ?_
        refine r_ldI_n (m := 2) F_164_36 rfl ?_
        refine r_ldI (m := 5) F_164_37 rfl ?_
        refine r_iadd F_164_39 rfl ?_
        refine r_ialdU (c := 1) (len := 30) (e := (s 78 (p + 3))) F_164_40 rfl rfl (Nat.lt_of_lt_of_le (by decide) hU) (by decide) (by decide) (l29 e1 e9 e13) (l30 e1 e9 e13) rfl ?_
        refine r_ldI_n (m := 3) F_164_41 rfl ?_
        refine r_icmp (t := 52) F_164_42 rfl (l31 e1 e9 e13) l4 ?_ ?_
        · intro e14
          replace e14 : (s 78 (p + 3)) < h := e14
          refine r_iconst F_164_52 ?_
          refine r_ior (e := 6) F_164_53 bo_ior_6_0 ?_
          refine r_stI (m := 4) (L' := [some (vI k), some (vR 78), some (vI p), some (vI h), some (vI 6), some (vI 3)]) F_164_54 rfl rfl ?_
          refine r_iinc (m := 5) (e := 4) (L' := [some (vI k), some (vR 78), some (vI p), some (vI h), some (vI 6), some (vI 4)]) F_164_56 rfl rfl rfl rfl ?_
          refine r_goto (t := 27) F_164_59 rfl ?_
          refine r_ldI (m := 5) F_164_27 rfl ?_
          refine r_iconst F_164_29 ?_
          refine r_icmpT (t := 62) F_164_30 rfl (by decide) (by decide) (by show (4 : Int) ≤ 4; decide) ?_
          refine r_ldI (m := 4) F_164_62 rfl ?_
          refine r_ireturn F_164_64 rt_164 ?_
          exact (l32 e1 e9 e13 e14)
        · intro e15
          replace e15 : h ≤ (s 78 (p + 3)) := (Int.not_lt.mp e15)
          refine r_iconst F_164_45 ?_
          refine r_ldI (m := 5) F_164_46 rfl ?_
          refine r_ishl (e := 8) F_164_48 bo_ishl_1_3 ?_
          refine r_goto (t := 53) F_164_49 rfl ?_
          refine r_ior (e := 14) F_164_53 bo_ior_6_8 ?_
          refine r_stI (m := 4) (L' := [some (vI k), some (vR 78), some (vI p), some (vI h), some (vI 14), some (vI 3)]) F_164_54 rfl rfl ?_
          refine r_iinc (m := 5) (e := 4) (L' := [some (vI k), some (vR 78), some (vI p), some (vI h), some (vI 14), some (vI 4)]) F_164_56 rfl rfl rfl rfl ?_
          refine r_goto (t := 27) F_164_59 rfl ?_
          refine r_ldI (m := 5) F_164_27 rfl ?_
          refine r_iconst F_164_29 ?_
          refine r_icmpT (t := 62) F_164_30 rfl (by decide) (by decide) (by show (4 : Int) ≤ 4; decide) ?_
          refine r_ldI (m := 4) F_164_62 rfl ?_
          refine r_ireturn F_164_64 rt_164 ?_
          exact (l33 e1 e9 e13 e15)
  · intro e16
    replace e16 : h ≤ (s 78 p) := (Int.not_lt.mp e16)
    refine r_iconst F_164_45 ?_
    refine r_ldI (m := 5) F_164_46 rfl ?_
    refine r_ishl (e := 1) F_164_48 bo_ishl_1_0 ?_
    refine r_goto (t := 53) F_164_49 rfl ?_
    refine r_ior (e := 1) F_164_53 bo_ior_0_1 ?_
    refine r_stI (m := 4) (L' := [some (vI k), some (vR 78), some (vI p), some (vI h), some (vI 1), some (vI 0)]) F_164_54 rfl rfl ?_
    refine r_iinc (m := 5) (e := 1) (L' := [some (vI k), some (vR 78), some (vI p), some (vI h), some (vI 1), some (vI 1)]) F_164_56 rfl rfl rfl rfl ?_
    refine r_goto (t := 27) F_164_59 rfl ?_
    refine r_ldI (m := 5) F_164_27 rfl ?_
    refine r_iconst F_164_29 ?_
    refine r_icmpF (t := 62) F_164_30 rfl (by decide) (by decide) (by show ¬ ((4 : Int) ≤ 1); decide) ?_
    refine r_ldI (m := 4) F_164_33 rfl ?_
    refine r_ldR_n (m := 1) F_164_35 rfl ?_
    refine r_ldI_n (m := 2) F_164_36 rfl ?_
    refine r_ldI (m := 5) F_164_37 rfl ?_
    refine r_iadd F_164_39 rfl ?_
    refine r_ialdU (c := 1) (len := 30) (e := (s 78 (p + 1))) F_164_40 rfl rfl (Nat.lt_of_lt_of_le (by decide) hU) (by decide) (by decide) (l34 e16) (l35 e16) rfl ?_
    refine r_ldI_n (m := 3) F_164_41 rfl ?_
    refine r_icmp (t := 52) F_164_42 rfl (l36 e16) l4 ?_ ?_
    · intro e17
      replace e17 : (s 78 (p + 1)) < h := e17
      refine r_iconst F_164_52 ?_
      refine r_ior (e := 1) F_164_53 bo_ior_1_0 ?_
      refine r_stI (m := 4) (L' := [some (vI k), some (vR 78), some (vI p), some (vI h), some (vI 1), some (vI 1)]) F_164_54 rfl rfl ?_
      refine r_iinc (m := 5) (e := 2) (L' := [some (vI k), some (vR 78), some (vI p), some (vI h), some (vI 1), some (vI 2)]) F_164_56 rfl rfl rfl rfl ?_
      refine r_goto (t := 27) F_164_59 rfl ?_
      refine r_ldI (m := 5) F_164_27 rfl ?_
      refine r_iconst F_164_29 ?_
      refine r_icmpF (t := 62) F_164_30 rfl (by decide) (by decide) (by show ¬ ((4 : Int) ≤ 2); decide) ?_
      refine r_ldI (m := 4) F_164_33 rfl ?_
      refine r_ldR_n (m := 1) F_164_35 rfl ?_
      refine r_ldI_n (m := 2) F_164_36 rfl ?_
      refine r_ldI (m := 5) F_164_37 rfl ?_
      refine r_iadd F_164_39 rfl ?_
      refine r_ialdU (c := 1) (len := 30) (e := (s 78 (p + 2))) F_164_40 rfl rfl (Nat.lt_of_lt_of_le (by decide) hU) (by decide) (by decide) (l37 e16 e17) (l38 e16 e17) rfl ?_
      refine r_ldI_n (m := 3) F_164_41 rfl ?_
      refine r_icmp (t := 52) F_164_42 rfl (l39 e16 e17) l4 ?_ ?_
      · intro e18
        replace e18 : (s 78 (p + 2)) < h := e18
        refine r_iconst F_164_52 ?_
        refine r_ior (e := 1) F_164_53 bo_ior_1_0 ?_
        refine r_stI (m := 4) (L' := [some (vI k), some (vR 78), some (vI p), some (vI h), some (vI 1), some (vI 2)]) F_164_54 rfl rfl ?_
        refine r_iinc (m := 5) (e := 3) (L' := [some (vI k), some (vR 78), some (vI p), some (vI h), some (vI 1), some (vI 3)]) F_164_56 rfl rfl rfl rfl ?_
        refine r_goto (t := 27) F_164_59 rfl ?_
        refine r_ldI (m := 5) F_164_27 rfl ?_
        refine r_iconst F_164_29 ?_
        refine r_icmpF (t := 62) F_164_30 rfl (by decide) (by decide) (by show ¬ ((4 : Int) ≤ 3); decide) ?_
        refine r_ldI (m := 4) F_164_33 rfl ?_
        refine r_ldR_n (m := 1) F_164_35 rfl ?_
        refine r_ldI_n (m := 2) F_164_36 rfl ?_
        refine r_ldI (m := 5) F_164_37 rfl ?_
        refine r_iadd F_164_39 rfl ?_
        refine r_ialdU (c := 1) (len := 30) (e := (s 78 (p + 3))) F_164_40 rfl rfl (Nat.lt_of_lt_of_le (by decide) hU) (by decide) (by decide) (l40 e16 e17 e18) (l41 e16 e17 e18) rfl ?_
        refine r_ldI_n (m := 3) F_164_41 rfl ?_
        refine r_icmp (t := 52) F_164_42 rfl (l42 e16 e17 e18) l4 ?_ ?_
        · intro e19
          replace e19 : (s 78 (p + 3)) < h := e19
          refine r_iconst F_164_52 ?_
          refine r_ior (e := 1) F_164_53 bo_ior_1_0 ?_
          refine r_stI (m := 4) (L' := [some (vI k), some (vR 78), some (vI p), some (vI h), some (vI 1), some (vI 3)]) F_164_54 rfl rfl ?_
          refine r_iinc (m := 5) (e := 4) (L' := [some (vI k), some (vR 78), some (vI p), some (vI h), some (vI 1), some (vI 4)]) F_164_56 rfl rfl rfl rfl ?_
          refine r_goto (t := 27) F_164_59 rfl ?_
          refine r_ldI (m := 5) F_164_27 rfl ?_
          refine r_iconst F_164_29 ?_
          refine r_icmpT (t := 62) F_164_30 rfl (by decide) (by decide) (by show (4 : Int) ≤ 4; decide) ?_
          refine r_ldI (m := 4) F_164_62 rfl ?_
          refine r_ireturn F_164_64 rt_164 ?_
          exact (l43 e16 e17 e18 e19)
        · intro e20
          replace e20 : h ≤ (s 78 (p + 3)) := (Int.not_lt.mp e20)
          refine r_iconst F_164_45 ?_
          refine r_ldI (m := 5) F_164_46 rfl ?_
          refine r_ishl (e := 8) F_164_48 bo_ishl_1_3 ?_
          refine r_goto (t := 53) F_164_49 rfl ?_
          refine r_ior (e := 9) F_164_53 bo_ior_1_8 ?_
          refine r_stI (m := 4) (L' := [some (vI k), some (vR 78), some (vI p), some (vI h), some (vI 9), some (vI 3)]) F_164_54 rfl rfl ?_
          refine r_iinc (m := 5) (e := 4) (L' := [some (vI k), some (vR 78), some (vI p), some (vI h), some (vI 9), some (vI 4)]) F_164_56 rfl rfl rfl rfl ?_
          refine r_goto (t := 27) F_164_59 rfl ?_
          refine r_ldI (m := 5) F_164_27 rfl ?_
          refine r_iconst F_164_29 ?_
          refine r_icmpT (t := 62) F_164_30 rfl (by decide) (by decide) (by show (4 : Int) ≤ 4; decide) ?_
          refine r_ldI (m := 4) F_164_62 rfl ?_
          refine r_ireturn F_164_64 rt_164 ?_
          exact (l44 e16 e17 e18 e20)
      · intro e21
        replace e21 : h ≤ (s 78 (p + 2)) := (Int.not_lt.mp e21)
        refine r_iconst F_164_45 ?_
        refine r_ldI (m := 5) F_164_46 rfl ?_
        refine r_ishl (e := 4) F_164_48 bo_ishl_1_2 ?_
        refine r_goto (t := 53) F_164_49 rfl ?_
        refine r_ior (e := 5) F_164_53 bo_ior_1_4 ?_
        refine r_stI (m := 4) (L' := [some (vI k), some (vR 78), some (vI p), some (vI h), some (vI 5), some (vI 2)]) F_164_54 rfl rfl ?_
        refine r_iinc (m := 5) (e := 3) (L' := [some (vI k), some (vR 78), some (vI p), some (vI h), some (vI 5), some (vI 3)]) F_164_56 rfl rfl rfl rfl ?_
        refine r_goto (t := 27) F_164_59 rfl ?_
        refine r_ldI (m := 5) F_164_27 rfl ?_
        refine r_iconst F_164_29 ?_
        refine r_icmpF (t := 62) F_164_30 rfl (by decide) (by decide) (by show ¬ ((4 : Int) ≤ 3); decide) ?_
        refine r_ldI (m := 4) F_164_33 rfl ?_
        refine r_ldR_n (m := 1) F_164_35 rfl ?_
        refine r_ldI_n (m := 2) F_164_36 rfl ?_
        refine r_ldI (m := 5) F_164_37 rfl ?_
        refine r_iadd F_164_39 rfl ?_
        refine r_ialdU (c := 1) (len := 30) (e := (s 78 (p + 3))) F_164_40 rfl rfl (Nat.lt_of_lt_of_le (by decide) hU) (by decide) (by decide) (l45 e16 e17 e21) (l46 e16 e17 e21) rfl ?_
        refine r_ldI_n (m := 3) F_164_41 rfl ?_
        refine r_icmp (t := 52) F_164_42 rfl (l47 e16 e17 e21) l4 ?_ ?_
        · intro e22
          replace e22 : (s 78 (p + 3)) < h := e22
          refine r_iconst F_164_52 ?_
          refine r_ior (e := 5) F_164_53 bo_ior_5_0 ?_
          refine r_stI (m := 4) (L' := [some (vI k), some (vR 78), some (vI p), some (vI h), some (vI 5), some (vI 3)]) F_164_54 rfl rfl ?_
          refine r_iinc (m := 5) (e := 4) (L' := [some (vI k), some (vR 78), some (vI p), some (vI h), some (vI 5), some (vI 4)]) F_164_56 rfl rfl rfl rfl ?_
          refine r_goto (t := 27) F_164_59 rfl ?_
          refine r_ldI (m := 5) F_164_27 rfl ?_
          refine r_iconst F_164_29 ?_
          refine r_icmpT (t := 62) F_164_30 rfl (by decide) (by decide) (by show (4 : Int) ≤ 4; decide) ?_
          refine r_ldI (m := 4) F_164_62 rfl ?_
          refine r_ireturn F_164_64 rt_164 ?_
          exact (l48 e16 e17 e21 e22)
        · intro e23
          replace e23 : h ≤ (s 78 (p + 3)) := (Int.not_lt.mp e23)
          refine r_iconst F_164_45 ?_
          refine r_ldI (m := 5) F_164_46 rfl ?_
          refine r_ishl (e := 8) F_164_48 bo_ishl_1_3 ?_
          refine r_goto (t := 53) F_164_49 rfl ?_
          refine r_ior (e := 13) F_164_53 bo_ior_5_8 ?_
          refine r_stI (m := 4) (L' := [some (vI k), some (vR 78), some (vI p), some (vI h), some (vI 13), some (vI 3)]) F_164_54 rfl rfl ?_
          refine r_iinc (m := 5) (e := 4) (L' := [some (vI k), some (vR 78), some (vI p), some (vI h), some (vI 13), some (vI 4)]) F_164_56 rfl rfl rfl rfl ?_
          refine r_goto (t := 27) F_164_59 rfl ?_
          refine r_ldI (m := 5) F_164_27 rfl ?_
          refine r_iconst F_164_29 ?_
          refine r_icmpT (t := 62) F_164_30 rfl (by decide) (by decide) (by show (4 : Int) ≤ 4; decide) ?_
          refine r_ldI (m := 4) F_164_62 rfl ?_
          refine r_ireturn F_164_64 rt_164 ?_
          exact (l49 e16 e17 e21 e23)
    · intro e24
      replace e24 : h ≤ (s 78 (p + 1)) := (Int.not_lt.mp e24)
      refine r_iconst F_164_45 ?_
      refine r_ldI (m := 5) F_164_46 rfl ?_
      refine r_ishl (e := 2) F_164_48 bo_ishl_1_1 ?_
      refine r_goto (t := 53) F_164_49 rfl ?_
      refine r_ior (e := 3) F_164_53 bo_ior_1_2 ?_
      refine r_stI (m := 4) (L' := [some (vI k), some (vR 78), some (vI p), some (vI h), some (vI 3), some (vI 1)]) F_164_54 rfl rfl ?_
      refine r_iinc (m := 5) (e := 2) (L' := [some (vI k), some (vR 78), some (vI p), some (vI h), some (vI 3), some (vI 2)]) F_164_56 rfl rfl rfl rfl ?_
      refine r_goto (t := 27) F_164_59 rfl ?_
      refine r_ldI (m := 5) F_164_27 rfl ?_
      refine r_iconst F_164_29 ?_
      refine r_icmpF (t := 62) F_164_30 rfl (by decide) (by decide) (by show ¬ ((4 : Int) ≤ 2); decide) ?_
      refine r_ldI (m := 4) F_164_33 rfl ?_
      refine r_ldR_n (m := 1) F_164_35 rfl ?_
      refine r_ldI_n (m := 2) F_164_36 rfl ?_
      refine r_ldI (m := 5) F_164_37 rfl ?_
      refine r_iadd F_164_39 rfl ?_
      refine r_ialdU (c := 1) (len := 30) (e := (s 78 (p + 2))) F_164_40 rfl rfl (Nat.lt_of_lt_of_le (by decide) hU) (by decide) (by decide) (l50 e16 e24) (l51 e16 e24) rfl ?_
      refine r_ldI_n (m := 3) F_164_41 rfl ?_
      refine r_icmp (t := 52) F_164_42 rfl (l52 e16 e24) l4 ?_ ?_
      · intro e25
        replace e25 : (s 78 (p + 2)) < h := e25
        refine r_iconst F_164_52 ?_
        refine r_ior (e := 3) F_164_53 bo_ior_3_0 ?_
        refine r_stI (m := 4) (L' := [some (vI k), some (vR 78), some (vI p), some (vI h), some (vI 3), some (vI 2)]) F_164_54 rfl rfl ?_
        refine r_iinc (m := 5) (e := 3) (L' := [some (vI k), some (vR 78), some (vI p), some (vI h), some (vI 3), some (vI 3)]) F_164_56 rfl rfl rfl rfl ?_
        refine r_goto (t := 27) F_164_59 rfl ?_
        refine r_ldI (m := 5) F_164_27 rfl ?_
        refine r_iconst F_164_29 ?_
        refine r_icmpF (t := 62) F_164_30 rfl (by decide) (by decide) (by show ¬ ((4 : Int) ≤ 3); decide) ?_
        refine r_ldI (m := 4) F_164_33 rfl ?_
        refine r_ldR_n (m := 1) F_164_35 rfl ?_
        refine r_ldI_n (m := 2) F_164_36 rfl ?_
        refine r_ldI (m := 5) F_164_37 rfl ?_
        refine r_iadd F_164_39 rfl ?_
        refine r_ialdU (c := 1) (len := 30) (e := (s 78 (p + 3))) F_164_40 rfl rfl (Nat.lt_of_lt_of_le (by decide) hU) (by decide) (by decide) (l53 e16 e24 e25) (l54 e16 e24 e25) rfl ?_
        refine r_ldI_n (m := 3) F_164_41 rfl ?_
        refine r_icmp (t := 52) F_164_42 rfl (l55 e16 e24 e25) l4 ?_ ?_
        · intro e26
          replace e26 : (s 78 (p + 3)) < h := e26
          refine r_iconst F_164_52 ?_
          refine r_ior (e := 3) F_164_53 bo_ior_3_0 ?_
          refine r_stI (m := 4) (L' := [some (vI k), some (vR 78), some (vI p), some (vI h), some (vI 3), some (vI 3)]) F_164_54 rfl rfl ?_
          refine r_iinc (m := 5) (e := 4) (L' := [some (vI k), some (vR 78), some (vI p), some (vI h), some (vI 3), some (vI 4)]) F_164_56 rfl rfl rfl rfl ?_
          refine r_goto (t := 27) F_164_59 rfl ?_
          refine r_ldI (m := 5) F_164_27 rfl ?_
          refine r_iconst F_164_29 ?_
          refine r_icmpT (t := 62) F_164_30 rfl (by decide) (by decide) (by show (4 : Int) ≤ 4; decide) ?_
          refine r_ldI (m := 4) F_164_62 rfl ?_
          refine r_ireturn F_164_64 rt_164 ?_
          exact (l56 e16 e24 e25 e26)
        · intro e27
          replace e27 : h ≤ (s 78 (p + 3)) := (Int.not_lt.mp e27)
          refine r_iconst F_164_45 ?_
          refine r_ldI (m := 5) F_164_46 rfl ?_
          refine r_ishl (e := 8) F_164_48 bo_ishl_1_3 ?_
          refine r_goto (t := 53) F_164_49 rfl ?_
          refine r_ior (e := 11) F_164_53 bo_ior_3_8 ?_
          refine r_stI (m := 4) (L' := [some (vI k), some (vR 78), some (vI p), some (vI h), some (vI 11), some (vI 3)]) F_164_54 rfl rfl ?_
          refine r_iinc (m := 5) (e := 4) (L' := [some (vI k), some (vR 78), some (vI p), some (vI h), some (vI 11), some (vI 4)]) F_164_56 rfl rfl rfl rfl ?_
          refine r_goto (t := 27) F_164_59 rfl ?_
          refine r_ldI (m := 5) F_164_27 rfl ?_
          refine r_iconst F_164_29 ?_
          refine r_icmpT (t := 62) F_164_30 rfl (by decide) (by decide) (by show (4 : Int) ≤ 4; decide) ?_
          refine r_ldI (m := 4) F_164_62 rfl ?_
          refine r_ireturn F_164_64 rt_164 ?_
          exact (l57 e16 e24 e25 e27)
      · intro e28
        replace e28 : h ≤ (s 78 (p + 2)) := (Int.not_lt.mp e28)
        refine r_iconst F_164_45 ?_
        refine r_ldI (m := 5) F_164_46 rfl ?_
        refine r_ishl (e := 4) F_164_48 bo_ishl_1_2 ?_
        refine r_goto (t := 53) F_164_49 rfl ?_
        refine r_ior (e := 7) F_164_53 bo_ior_3_4 ?_
        refine r_stI (m := 4) (L' := [some (vI k), some (vR 78), some (vI p), some (vI h), some (vI 7), some (vI 2)]) F_164_54 rfl rfl ?_
        refine r_iinc (m := 5) (e := 3) (L' := [some (vI k), some (vR 78), some (vI p), some (vI h), some (vI 7), some (vI 3)]) F_164_56 rfl rfl rfl rfl ?_
        refine r_goto (t := 27) F_164_59 rfl ?_
        refine r_ldI (m := 5) F_164_27 rfl ?_
        refine r_iconst F_164_29 ?_
        refine r_icmpF (t := 62) F_164_30 rfl (by decide) (by decide) (by show ¬ ((4 : Int) ≤ 3); decide) ?_
        refine r_ldI (m := 4) F_164_33 rfl ?_
        refine r_ldR_n (m := 1) F_164_35 rfl ?_
        refine r_ldI_n (m := 2) F_164_36 rfl ?_
        refine r_ldI (m := 5) F_164_37 rfl ?_
        refine r_iadd F_164_39 rfl ?_
        refine r_ialdU (c := 1) (len := 30) (e := (s 78 (p + 3))) F_164_40 rfl rfl (Nat.lt_of_lt_of_le (by decide) hU) (by decide) (by decide) (l58 e16 e24 e28) (l59 e16 e24 e28) rfl ?_
        refine r_ldI_n (m := 3) F_164_41 rfl ?_
        refine r_icmp (t := 52) F_164_42 rfl (l60 e16 e24 e28) l4 ?_ ?_
        · intro e29
          replace e29 : (s 78 (p + 3)) < h := e29
          refine r_iconst F_164_52 ?_
          refine r_ior (e := 7) F_164_53 bo_ior_7_0 ?_
          refine r_stI (m := 4) (L' := [some (vI k), some (vR 78), some (vI p), some (vI h), some (vI 7), some (vI 3)]) F_164_54 rfl rfl ?_
          refine r_iinc (m := 5) (e := 4) (L' := [some (vI k), some (vR 78), some (vI p), some (vI h), some (vI 7), some (vI 4)]) F_164_56 rfl rfl rfl rfl ?_
          refine r_goto (t := 27) F_164_59 rfl ?_
          refine r_ldI (m := 5) F_164_27 rfl ?_
          refine r_iconst F_164_29 ?_
          refine r_icmpT (t := 62) F_164_30 rfl (by decide) (by decide) (by show (4 : Int) ≤ 4; decide) ?_
          refine r_ldI (m := 4) F_164_62 rfl ?_
          refine r_ireturn F_164_64 rt_164 ?_
          exact (l61 e16 e24 e28 e29)
        · intro e30
          replace e30 : h ≤ (s 78 (p + 3)) := (Int.not_lt.mp e30)
          refine r_iconst F_164_45 ?_
          refine r_ldI (m := 5) F_164_46 rfl ?_
          refine r_ishl (e := 8) F_164_48 bo_ishl_1_3 ?_
          refine r_goto (t := 53) F_164_49 rfl ?_
          refine r_ior (e := 15) F_164_53 bo_ior_7_8 ?_
          refine r_stI (m := 4) (L' := [some (vI k), some (vR 78), some (vI p), some (vI h), some (vI 15), some (vI 3)]) F_164_54 rfl rfl ?_
          refine r_iinc (m := 5) (e := 4) (L' := [some (vI k), some (vR 78), some (vI p), some (vI h), some (vI 15), some (vI 4)]) F_164_56 rfl rfl rfl rfl ?_
          refine r_goto (t := 27) F_164_59 rfl ?_
          refine r_ldI (m := 5) F_164_27 rfl ?_
          refine r_iconst F_164_29 ?_
          refine r_icmpT (t := 62) F_164_30 rfl (by decide) (by decide) (by show (4 : Int) ≤ 4; decide) ?_
          refine r_ldI (m := 4) F_164_62 rfl ?_
          refine r_ireturn F_164_64 rt_164 ?_
          exact (l62 e16 e24 e28 e30)
theorem t_L_told {X : m_X} {d : Nat} {s : m_St} {P : Option Value → m_St → Prop} {m c z : Int} (hU : 2 ≤ X.2)
    (l1 : Rn X d 168 6 [some (vI m), some (vR 77), some (vI c), some (vI z), some (vI 0), some (vI 0)] [] s P)
    : Cl X d 168 [vI m, vR 77, vI c, vI z] s P := by
  refine Cl_of n_168 rfl ?_
  show Rn _ _ _ _ [some (vI m), some (vR 77), some (vI c), some (vI z), none, none] [] _ _
  refine r_iconst F_168_0 ?_
  refine r_stI (m := 4) (L' := [some (vI m), some (vR 77), some (vI c), some (vI z), some (vI 0), none]) F_168_1 rfl rfl ?_
  refine r_iconst F_168_3 ?_
  refine r_stI (m := 5) (L' := [some (vI m), some (vR 77), some (vI c), some (vI z), some (vI 0), some (vI 0)]) F_168_4 rfl rfl ?_
  exact l1
theorem t_L_told_6 {X : m_X} {d : Nat} {s : m_St} {P : Option Value → m_St → Prop} {m c z b i : Int} (hU : 2 ≤ X.2)
    (l1 : inR i)
    (l2 : inR m)
    (l3 : m ≤ i → (b = 0 ∨ b = 1))
    (l4 : m ≤ i → P (some (vI b)) s)
    (l5 : i < m → inR b)
    (l6 : i < m → ¬ b = 0 → Rn X d 168 6 [some (vI m), some (vR 77), some (vI c), some (vI z), some (vI 1), some (vI (i + 1))] [] s P)
    (l7 : i < m → b = 0 → 0 ≤ (2 * i))
    (l8 : i < m → b = 0 → (2 * i) < 12)
    (l9 : i < m → b = 0 → inR (s 77 (2 * i)))
    (l10 : i < m → b = 0 → inR c)
    (l11 : i < m → b = 0 → ¬ (s 77 (2 * i)) = c → Rn X d 168 6 [some (vI m), some (vR 77), some (vI c), some (vI z), some (vI 0), some (vI (i + 1))] [] s P)
    (l12 : i < m → b = 0 → (s 77 (2 * i)) = c → 0 ≤ ((2 * i) + 1))
    (l13 : i < m → b = 0 → (s 77 (2 * i)) = c → ((2 * i) + 1) < 12)
    (l14 : i < m → b = 0 → (s 77 (2 * i)) = c → inR (s 77 ((2 * i) + 1)))
    (l15 : i < m → b = 0 → (s 77 (2 * i)) = c → inR z)
    (l16 : i < m → b = 0 → (s 77 (2 * i)) = c → ¬ (s 77 ((2 * i) + 1)) = z → Rn X d 168 6 [some (vI m), some (vR 77), some (vI c), some (vI z), some (vI 0), some (vI (i + 1))] [] s P)
    (l17 : i < m → b = 0 → (s 77 (2 * i)) = c → (s 77 ((2 * i) + 1)) = z → Rn X d 168 6 [some (vI m), some (vR 77), some (vI c), some (vI z), some (vI 1), some (vI (i + 1))] [] s P)
    : Rn X d 168 6 [some (vI m), some (vR 77), some (vI c), some (vI z), some (vI b), some (vI i)] [] s P := by
  refine r_ldI (m := 5) F_168_6 rfl ?_
  refine r_ldI_n (m := 0) F_168_8 rfl ?_
  refine r_icmp (t := 52) F_168_9 rfl l1 l2 ?_ ?_
  · intro e1
    replace e1 : m ≤ i := e1
    refine r_ldI (m := 4) F_168_52 rfl ?_
    refine r_zreturn F_168_54 rt_168 (l3 e1) ?_
    exact (l4 e1)
  · intro e2
    replace e2 : i < m := (Int.not_le.mp e2)
    refine r_ldI (m := 4) F_168_12 rfl ?_
    refine r_if (t := 39) F_168_14 rfl (l5 e2) ?_ ?_
    · intro e3
      replace e3 : ¬ b = 0 := e3
      refine r_iconst F_168_39 ?_
      refine r_goto (t := 44) F_168_40 rfl ?_
      refine r_stI (m := 4) (L' := [some (vI m), some (vR 77), some (vI c), some (vI z), some (vI 1), some (vI i)]) F_168_44 rfl rfl ?_
      refine r_iinc (m := 5) (e := (i + 1)) (L' := [some (vI m), some (vR 77), some (vI c), some (vI z), some (vI 1), some (vI (i + 1))]) F_168_46 rfl rfl rfl rfl ?_
      refine r_goto (t := 6) F_168_49 rfl ?_
      exact (l6 e2 e3)
    · intro e4
      replace e4 : b = 0 := (Classical.not_not.mp e4)
      refine r_ldR_n (m := 1) F_168_17 rfl ?_
      refine r_iconst F_168_18 ?_
      refine r_ldI (m := 5) F_168_19 rfl ?_
      refine r_imul F_168_21 rfl ?_
      refine r_ialdU (c := 0) (len := 12) (e := (s 77 (2 * i))) F_168_22 rfl rfl (Nat.lt_of_lt_of_le (by decide) hU) (by decide) (by decide) (l7 e2 e4) (l8 e2 e4) rfl ?_
      refine r_ldI_n (m := 2) F_168_23 rfl ?_
      refine r_icmp (t := 43) F_168_24 rfl (l9 e2 e4) (l10 e2 e4) ?_ ?_
      · intro e5
        replace e5 : ¬ (s 77 (2 * i)) = c := e5
        refine r_iconst F_168_43 ?_
        refine r_stI (m := 4) (L' := [some (vI m), some (vR 77), some (vI c), some (vI z), some (vI 0), some (vI i)]) F_168_44 rfl rfl ?_
        refine r_iinc (m := 5) (e := (i + 1)) (L' := [some (vI m), some (vR 77), some (vI c), some (vI z), some (vI 0), some (vI (i + 1))]) F_168_46 rfl rfl rfl rfl ?_
        refine r_goto (t := 6) F_168_49 rfl ?_
        exact (l11 e2 e4 e5)
      · intro e6
        replace e6 : (s 77 (2 * i)) = c := (Classical.not_not.mp e6)
        refine r_ldR_n (m := 1) F_168_27 rfl ?_
        refine r_iconst F_168_28 ?_
        refine r_ldI (m := 5) F_168_29 rfl ?_
        refine r_imul F_168_31 rfl ?_
        refine r_iconst F_168_32 ?_
        refine r_iadd F_168_33 rfl ?_
        refine r_ialdU (c := 0) (len := 12) (e := (s 77 ((2 * i) + 1))) F_168_34 rfl rfl (Nat.lt_of_lt_of_le (by decide) hU) (by decide) (by decide) (l12 e2 e4 e6) (l13 e2 e4 e6) rfl ?_
        refine r_ldI_n (m := 3) F_168_35 rfl ?_
        refine r_icmp (t := 43) F_168_36 rfl (l14 e2 e4 e6) (l15 e2 e4 e6) ?_ ?_
        · intro e7
          replace e7 : ¬ (s 77 ((2 * i) + 1)) = z := e7
          refine r_iconst F_168_43 ?_
          refine r_stI (m := 4) (L' := [some (vI m), some (vR 77), some (vI c), some (vI z), some (vI 0), some (vI i)]) F_168_44 rfl rfl ?_
          refine r_iinc (m := 5) (e := (i + 1)) (L' := [some (vI m), some (vR 77), some (vI c), some (vI z), some (vI 0), some (vI (i + 1))]) F_168_46 rfl rfl rfl rfl ?_
          refine r_goto (t := 6) F_168_49 rfl ?_
          exact (l16 e2 e4 e6 e7)
        · intro e8
          replace e8 : (s 77 ((2 * i) + 1)) = z := (Classical.not_not.mp e8)
          refine r_iconst F_168_39 ?_
          refine r_goto (t := 44) F_168_40 rfl ?_
          refine r_stI (m := 4) (L' := [some (vI m), some (vR 77), some (vI c), some (vI z), some (vI 1), some (vI i)]) F_168_44 rfl rfl ?_
          refine r_iinc (m := 5) (e := (i + 1)) (L' := [some (vI m), some (vR 77), some (vI c), some (vI z), some (vI 1), some (vI (i + 1))]) F_168_46 rfl rfl rfl rfl ?_
          refine r_goto (t := 6) F_168_49 rfl ?_
          exact (l17 e2 e4 e6 e8)
