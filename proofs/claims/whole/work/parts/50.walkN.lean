/-! walks: talks, from without -/
theorem n_111 : m_n 111 = 4 := by decide +kernel
theorem F_111_0 : F 111 0 (.aload_n 0) 1 := ⟨1, by decide +kernel, rfl, rfl⟩
theorem F_111_1 : F 111 1 (.iload_n 1) 2 := ⟨1, by decide +kernel, rfl, rfl⟩
theorem F_111_2 : F 111 2 (.putfield 29) 5 := ⟨3, by decide +kernel, rfl, rfl⟩
theorem pf_4_4 : pfT 4 4 .int = true := by decide +kernel
theorem o_111 : m_o 111 = 4 := by decide +kernel
theorem F_111_5 : F 111 5 (.iconst 0) 6 := ⟨1, by decide +kernel, rfl, rfl⟩
theorem F_111_6 : F 111 6 (.istore_n 3) 7 := ⟨1, by decide +kernel, rfl, rfl⟩
theorem F_111_7 : F 111 7 (.iload_n 3) 8 := ⟨1, by decide +kernel, rfl, rfl⟩
theorem F_111_8 : F 111 8 (.iload_n 2) 9 := ⟨1, by decide +kernel, rfl, rfl⟩
theorem F_111_9 : F 111 9 (.if_icmp .gt 25) 12 := ⟨3, by decide +kernel, rfl, rfl⟩
theorem F_111_34 : F 111 34 (.bipush (-9)) 36 := ⟨2, by decide +kernel, rfl, rfl⟩
theorem F_111_36 : F 111 36 (.ireturn) 37 := ⟨1, by decide +kernel, rfl, rfl⟩
theorem rt_111 : m_r 111 = (some .int) := by decide +kernel
theorem F_111_12 : F 111 12 (.iload_n 3) 13 := ⟨1, by decide +kernel, rfl, rfl⟩
theorem F_111_13 : F 111 13 (.iconst 5) 14 := ⟨1, by decide +kernel, rfl, rfl⟩
theorem F_111_14 : F 111 14 (.if_icmp .gt 20) 17 := ⟨3, by decide +kernel, rfl, rfl⟩
theorem F_111_17 : F 111 17 (.aload_n 0) 18 := ⟨1, by decide +kernel, rfl, rfl⟩
theorem F_111_18 : F 111 18 (.iconst 0) 19 := ⟨1, by decide +kernel, rfl, rfl⟩
theorem F_111_19 : F 111 19 (.iload_n 3) 20 := ⟨1, by decide +kernel, rfl, rfl⟩
theorem F_111_20 : F 111 20 (.invokestatic 87) 23 := ⟨3, by decide +kernel, rfl, rfl⟩
theorem F_111_23 : F 111 23 (.ifCond .eq 5) 26 := ⟨3, by decide +kernel, rfl, rfl⟩
theorem F_111_28 : F 111 28 (.iinc 3 1) 31 := ⟨3, by decide +kernel, rfl, rfl⟩
theorem F_111_31 : F 111 31 (.goto (-24)) 34 := ⟨3, by decide +kernel, rfl, rfl⟩
theorem F_111_26 : F 111 26 (.iload_n 3) 27 := ⟨1, by decide +kernel, rfl, rfl⟩
theorem F_111_27 : F 111 27 (.ireturn) 28 := ⟨1, by decide +kernel, rfl, rfl⟩
theorem n_117 : m_n 117 = 3 := by decide +kernel
theorem F_117_0 : F 117 0 (.aload_n 0) 1 := ⟨1, by decide +kernel, rfl, rfl⟩
theorem F_117_1 : F 117 1 (.iload_n 1) 2 := ⟨1, by decide +kernel, rfl, rfl⟩
theorem F_117_2 : F 117 2 (.putfield 29) 5 := ⟨3, by decide +kernel, rfl, rfl⟩
theorem o_117 : m_o 117 = 4 := by decide +kernel
theorem F_117_5 : F 117 5 (.aload_n 0) 6 := ⟨1, by decide +kernel, rfl, rfl⟩
theorem F_117_6 : F 117 6 (.lconst 0) 7 := ⟨1, by decide +kernel, rfl, rfl⟩
theorem F_117_7 : F 117 7 (.putfield 32) 10 := ⟨3, by decide +kernel, rfl, rfl⟩
theorem F_117_10 : F 117 10 (.aload_n 0) 11 := ⟨1, by decide +kernel, rfl, rfl⟩
theorem F_117_11 : F 117 11 (.bipush 15) 13 := ⟨2, by decide +kernel, rfl, rfl⟩
theorem F_117_13 : F 117 13 (.putfield 36) 16 := ⟨3, by decide +kernel, rfl, rfl⟩
theorem F_117_16 : F 117 16 (.aload_n 0) 17 := ⟨1, by decide +kernel, rfl, rfl⟩
theorem F_117_17 : F 117 17 (.iload_n 2) 18 := ⟨1, by decide +kernel, rfl, rfl⟩
theorem F_117_18 : F 117 18 (.iconst 5) 19 := ⟨1, by decide +kernel, rfl, rfl⟩
theorem F_117_19 : F 117 19 (.invokestatic 103) 22 := ⟨3, by decide +kernel, rfl, rfl⟩
theorem mm_4_103 : m_mm.lookup (4, 103) = some (1, 3209) := by decide +kernel
theorem iln_4_103 : m_il.lookup (4, 103) = none := by decide +kernel
theorem F_117_22 : F 117 22 (.lconst 1) 23 := ⟨1, by decide +kernel, rfl, rfl⟩
theorem F_117_23 : F 117 23 (.invokestatic 108) 26 := ⟨3, by decide +kernel, rfl, rfl⟩
theorem F_117_26 : F 117 26 (.aload_n 0) 27 := ⟨1, by decide +kernel, rfl, rfl⟩
theorem F_117_27 : F 117 27 (.getfield 32) 30 := ⟨3, by decide +kernel, rfl, rfl⟩
theorem F_117_30 : F 117 30 (.lreturn) 31 := ⟨1, by decide +kernel, rfl, rfl⟩
theorem rt_117 : m_r 117 = (some .long) := by decide +kernel
theorem n_133 : m_n 133 = 2 := by decide +kernel
theorem F_133_0 : F 133 0 (.aload_n 0) 1 := ⟨1, by decide +kernel, rfl, rfl⟩
theorem F_133_1 : F 133 1 (.iload_n 1) 2 := ⟨1, by decide +kernel, rfl, rfl⟩
theorem F_133_2 : F 133 2 (.iconst 5) 3 := ⟨1, by decide +kernel, rfl, rfl⟩
theorem F_133_3 : F 133 3 (.invokestatic 103) 6 := ⟨3, by decide +kernel, rfl, rfl⟩
theorem o_133 : m_o 133 = 4 := by decide +kernel
theorem F_133_6 : F 133 6 (.iconst 1) 7 := ⟨1, by decide +kernel, rfl, rfl⟩
theorem F_133_7 : F 133 7 (.invokestatic 119) 10 := ⟨3, by decide +kernel, rfl, rfl⟩
theorem F_133_10 : F 133 10 (.ireturn) 11 := ⟨1, by decide +kernel, rfl, rfl⟩
theorem rt_133 : m_r 133 = (some .int) := by decide +kernel
theorem n_136 : m_n 136 = 5 := by decide +kernel
theorem F_136_0 : F 136 0 (.aload_n 0) 1 := ⟨1, by decide +kernel, rfl, rfl⟩
theorem F_136_1 : F 136 1 (.iconst 0) 2 := ⟨1, by decide +kernel, rfl, rfl⟩
theorem F_136_2 : F 136 2 (.aload_n 1) 3 := ⟨1, by decide +kernel, rfl, rfl⟩
theorem F_136_3 : F 136 3 (.iload_n 2) 4 := ⟨1, by decide +kernel, rfl, rfl⟩
theorem F_136_4 : F 136 4 (.invokevirtual 123) 7 := ⟨3, by decide +kernel, rfl, rfl⟩
theorem o_136 : m_o 136 = 4 := by decide +kernel
theorem il_4_123 : ilq 4 123 0 16 1 = true := by decide +kernel
theorem F_136_7 : F 136 7 (.bipush 6) 9 := ⟨2, by decide +kernel, rfl, rfl⟩
theorem F_136_9 : F 136 9 (.invokestatic 103) 12 := ⟨3, by decide +kernel, rfl, rfl⟩
theorem F_136_12 : F 136 12 (.invokestatic 128) 15 := ⟨3, by decide +kernel, rfl, rfl⟩
theorem mm_4_128 : m_mm.lookup (4, 128) = some (0, 4049) := by decide +kernel
theorem iln_4_128 : m_il.lookup (4, 128) = none := by decide +kernel
theorem F_136_15 : F 136 15 (.putfield 42) 18 := ⟨3, by decide +kernel, rfl, rfl⟩
theorem pf_4_8 : pfT 4 8 .int = true := by decide +kernel
theorem F_136_18 : F 136 18 (.iconst 0) 19 := ⟨1, by decide +kernel, rfl, rfl⟩
theorem F_136_19 : F 136 19 (.istore 4) 21 := ⟨2, by decide +kernel, rfl, rfl⟩
theorem F_136_21 : F 136 21 (.iload 4) 23 := ⟨2, by decide +kernel, rfl, rfl⟩
theorem F_136_23 : F 136 23 (.aload_n 0) 24 := ⟨1, by decide +kernel, rfl, rfl⟩
theorem F_136_24 : F 136 24 (.getfield 42) 27 := ⟨3, by decide +kernel, rfl, rfl⟩
theorem F_136_27 : F 136 27 (.if_icmp .ge 23) 30 := ⟨3, by decide +kernel, rfl, rfl⟩
theorem F_136_50 : F 136 50 (.aload_n 0) 51 := ⟨1, by decide +kernel, rfl, rfl⟩
theorem F_136_51 : F 136 51 (.iconst 0) 52 := ⟨1, by decide +kernel, rfl, rfl⟩
theorem F_136_52 : F 136 52 (.iload_n 3) 53 := ⟨1, by decide +kernel, rfl, rfl⟩
theorem F_136_53 : F 136 53 (.bipush 12) 55 := ⟨2, by decide +kernel, rfl, rfl⟩
theorem F_136_55 : F 136 55 (.invokestatic 103) 58 := ⟨3, by decide +kernel, rfl, rfl⟩
theorem F_136_58 : F 136 58 (.invokestatic 128) 61 := ⟨3, by decide +kernel, rfl, rfl⟩
theorem F_136_61 : F 136 61 (.putfield 45) 64 := ⟨3, by decide +kernel, rfl, rfl⟩
theorem pf_4_9 : pfT 4 9 .int = true := by decide +kernel
theorem F_136_64 : F 136 64 (.iconst 0) 65 := ⟨1, by decide +kernel, rfl, rfl⟩
theorem F_136_65 : F 136 65 (.istore 4) 67 := ⟨2, by decide +kernel, rfl, rfl⟩
theorem F_136_30 : F 136 30 (.aload_n 0) 31 := ⟨1, by decide +kernel, rfl, rfl⟩
theorem F_136_31 : F 136 31 (.getfield 39) 34 := ⟨3, by decide +kernel, rfl, rfl⟩
theorem F_136_34 : F 136 34 (.iload 4) 36 := ⟨2, by decide +kernel, rfl, rfl⟩
theorem F_136_36 : F 136 36 (.aload_n 1) 37 := ⟨1, by decide +kernel, rfl, rfl⟩
theorem F_136_37 : F 136 37 (.iload_n 2) 38 := ⟨1, by decide +kernel, rfl, rfl⟩
theorem F_136_38 : F 136 38 (.iload 4) 40 := ⟨2, by decide +kernel, rfl, rfl⟩
theorem F_136_40 : F 136 40 (.invokevirtual 131) 43 := ⟨3, by decide +kernel, rfl, rfl⟩
theorem il_4_131 : ilq 4 131 0 18 2 = true := by decide +kernel
theorem F_136_43 : F 136 43 (.iastore) 44 := ⟨1, by decide +kernel, rfl, rfl⟩
theorem F_136_44 : F 136 44 (.iinc 4 1) 47 := ⟨3, by decide +kernel, rfl, rfl⟩
theorem F_136_47 : F 136 47 (.goto (-26)) 50 := ⟨3, by decide +kernel, rfl, rfl⟩
theorem F_136_67 : F 136 67 (.iload 4) 69 := ⟨2, by decide +kernel, rfl, rfl⟩
theorem F_136_69 : F 136 69 (.bipush 15) 71 := ⟨2, by decide +kernel, rfl, rfl⟩
theorem F_136_71 : F 136 71 (.if_icmp .gt 17) 74 := ⟨3, by decide +kernel, rfl, rfl⟩
theorem F_136_88 : F 136 88 (.aload_n 0) 89 := ⟨1, by decide +kernel, rfl, rfl⟩
theorem F_136_89 : F 136 89 (.iconst 0) 90 := ⟨1, by decide +kernel, rfl, rfl⟩
theorem F_136_90 : F 136 90 (.lconst 1) 91 := ⟨1, by decide +kernel, rfl, rfl⟩
theorem F_136_91 : F 136 91 (.invokestatic 134) 94 := ⟨3, by decide +kernel, rfl, rfl⟩
theorem F_136_94 : F 136 94 (.return_) 95 := ⟨1, by decide +kernel, rfl, rfl⟩
theorem rt_136 : m_r 136 = none := by decide +kernel
theorem F_136_74 : F 136 74 (.aload_n 0) 75 := ⟨1, by decide +kernel, rfl, rfl⟩
theorem F_136_75 : F 136 75 (.getfield 48) 78 := ⟨3, by decide +kernel, rfl, rfl⟩
theorem F_136_78 : F 136 78 (.iload 4) 80 := ⟨2, by decide +kernel, rfl, rfl⟩
theorem F_136_80 : F 136 80 (.lconst 0) 81 := ⟨1, by decide +kernel, rfl, rfl⟩
theorem F_136_81 : F 136 81 (.lastore) 82 := ⟨1, by decide +kernel, rfl, rfl⟩
theorem F_136_82 : F 136 82 (.iinc 4 1) 85 := ⟨3, by decide +kernel, rfl, rfl⟩
theorem F_136_85 : F 136 85 (.goto (-18)) 88 := ⟨3, by decide +kernel, rfl, rfl⟩
theorem n_138 : m_n 138 = 5 := by decide +kernel
theorem F_138_0 : F 138 0 (.lconst 0) 1 := ⟨1, by decide +kernel, rfl, rfl⟩
theorem F_138_1 : F 138 1 (.lstore_n 2) 2 := ⟨1, by decide +kernel, rfl, rfl⟩
theorem F_138_2 : F 138 2 (.iconst 0) 3 := ⟨1, by decide +kernel, rfl, rfl⟩
theorem F_138_3 : F 138 3 (.istore 4) 5 := ⟨2, by decide +kernel, rfl, rfl⟩
theorem F_138_5 : F 138 5 (.iload 4) 7 := ⟨2, by decide +kernel, rfl, rfl⟩
theorem F_138_7 : F 138 7 (.bipush 15) 9 := ⟨2, by decide +kernel, rfl, rfl⟩
theorem F_138_9 : F 138 9 (.if_icmp .gt 32) 12 := ⟨3, by decide +kernel, rfl, rfl⟩
theorem F_138_41 : F 138 41 (.lload_n 2) 42 := ⟨1, by decide +kernel, rfl, rfl⟩
theorem F_138_42 : F 138 42 (.lreturn) 43 := ⟨1, by decide +kernel, rfl, rfl⟩
theorem rt_138 : m_r 138 = (some .long) := by decide +kernel
theorem F_138_12 : F 138 12 (.lload_n 2) 13 := ⟨1, by decide +kernel, rfl, rfl⟩
theorem F_138_13 : F 138 13 (.iload 4) 15 := ⟨2, by decide +kernel, rfl, rfl⟩
theorem F_138_15 : F 138 15 (.iload_n 1) 16 := ⟨1, by decide +kernel, rfl, rfl⟩
theorem F_138_16 : F 138 16 (.ishr) 17 := ⟨1, by decide +kernel, rfl, rfl⟩
theorem F_138_17 : F 138 17 (.iconst 1) 18 := ⟨1, by decide +kernel, rfl, rfl⟩
theorem F_138_18 : F 138 18 (.iand) 19 := ⟨1, by decide +kernel, rfl, rfl⟩
theorem F_138_19 : F 138 19 (.ifCond .eq 13) 22 := ⟨3, by decide +kernel, rfl, rfl⟩
theorem F_138_32 : F 138 32 (.lconst 0) 33 := ⟨1, by decide +kernel, rfl, rfl⟩
theorem F_138_33 : F 138 33 (.ladd) 34 := ⟨1, by decide +kernel, rfl, rfl⟩
theorem F_138_34 : F 138 34 (.lstore_n 2) 35 := ⟨1, by decide +kernel, rfl, rfl⟩
theorem F_138_35 : F 138 35 (.iinc 4 1) 38 := ⟨3, by decide +kernel, rfl, rfl⟩
theorem F_138_38 : F 138 38 (.goto (-33)) 41 := ⟨3, by decide +kernel, rfl, rfl⟩
theorem F_138_22 : F 138 22 (.aload_n 0) 23 := ⟨1, by decide +kernel, rfl, rfl⟩
theorem F_138_23 : F 138 23 (.getfield 48) 26 := ⟨3, by decide +kernel, rfl, rfl⟩
theorem o_138 : m_o 138 = 4 := by decide +kernel
theorem F_138_26 : F 138 26 (.iload 4) 28 := ⟨2, by decide +kernel, rfl, rfl⟩
theorem F_138_28 : F 138 28 (.laload) 29 := ⟨1, by decide +kernel, rfl, rfl⟩
theorem F_138_29 : F 138 29 (.goto 4) 32 := ⟨3, by decide +kernel, rfl, rfl⟩
theorem n_139 : m_n 139 = 4 := by decide +kernel
theorem F_139_0 : F 139 0 (.lconst 0) 1 := ⟨1, by decide +kernel, rfl, rfl⟩
theorem F_139_1 : F 139 1 (.lstore_n 1) 2 := ⟨1, by decide +kernel, rfl, rfl⟩
theorem F_139_2 : F 139 2 (.iconst 0) 3 := ⟨1, by decide +kernel, rfl, rfl⟩
theorem F_139_3 : F 139 3 (.istore_n 3) 4 := ⟨1, by decide +kernel, rfl, rfl⟩
theorem F_139_4 : F 139 4 (.iload_n 3) 5 := ⟨1, by decide +kernel, rfl, rfl⟩
theorem F_139_5 : F 139 5 (.bipush 15) 7 := ⟨2, by decide +kernel, rfl, rfl⟩
theorem F_139_7 : F 139 7 (.if_icmp .gt 18) 10 := ⟨3, by decide +kernel, rfl, rfl⟩
theorem F_139_25 : F 139 25 (.lload_n 1) 26 := ⟨1, by decide +kernel, rfl, rfl⟩
theorem F_139_26 : F 139 26 (.lreturn) 27 := ⟨1, by decide +kernel, rfl, rfl⟩
theorem rt_139 : m_r 139 = (some .long) := by decide +kernel
theorem F_139_10 : F 139 10 (.lload_n 1) 11 := ⟨1, by decide +kernel, rfl, rfl⟩
theorem F_139_11 : F 139 11 (.aload_n 0) 12 := ⟨1, by decide +kernel, rfl, rfl⟩
theorem F_139_12 : F 139 12 (.getfield 48) 15 := ⟨3, by decide +kernel, rfl, rfl⟩
theorem o_139 : m_o 139 = 4 := by decide +kernel
theorem F_139_15 : F 139 15 (.iload_n 3) 16 := ⟨1, by decide +kernel, rfl, rfl⟩
theorem F_139_16 : F 139 16 (.laload) 17 := ⟨1, by decide +kernel, rfl, rfl⟩
theorem F_139_17 : F 139 17 (.ladd) 18 := ⟨1, by decide +kernel, rfl, rfl⟩
theorem F_139_18 : F 139 18 (.lstore_n 1) 19 := ⟨1, by decide +kernel, rfl, rfl⟩
theorem F_139_19 : F 139 19 (.iinc 3 1) 22 := ⟨3, by decide +kernel, rfl, rfl⟩
theorem F_139_22 : F 139 22 (.goto (-18)) 25 := ⟨3, by decide +kernel, rfl, rfl⟩
theorem t_X4_fewest {X : List Int32} {d : Nat} {s : m_St} {P : Option Value → m_St → Prop} {c m : Int}
    (l1 : Rn X (d + 13) 111 7 [some (vR 66), some (vI c), some (vI m), some (vI 0)] [] (m_upd s 66 4 c) P)
    : Cl X (d + 13) 111 [vR 66, vI c, vI m] s P := by
  refine Cl_of n_111 rfl ?_
  show Rn _ _ _ _ [some (vR 66), some (vI c), some (vI m), none] [] _ _
  refine r_ldR_n (m := 0) F_111_0 rfl ?_
  refine r_ldI_n (m := 1) F_111_1 rfl ?_
  refine r_putI (J := 4) F_111_2 o_111 fl_4_29 ty_66 (by decide) rfl kd_66_4 pf_4_4 ?_
  refine r_iconst F_111_5 ?_
  refine r_stI_n (m := 3) (L' := [some (vR 66), some (vI c), some (vI m), some (vI 0)]) F_111_6 rfl rfl ?_
  exact l1
theorem t_X4_fewest_7 {X : List Int32} {d : Nat} {s : m_St} {P : Option Value → m_St → Prop} {c m n : Int} (n0 : 0 ≤ n)
    (l1 : inR n)
    (l2 : inR m)
    (l3 : m < n → P (some (vI (-9))) s)
    (l4 : n ≤ m → 5 < n → P (some (vI (-9))) s)
    (l5 : n ≤ m → n ≤ 5 → tkok s)
    (l6 : n ≤ m → n ≤ 5 → inR (s 66 4))
    (l7 : n ≤ m → n ≤ 5 → ∀ (v5 : Int) (s5 : m_St), qRe s n v5 s5 → inR v5)
    (l8 : n ≤ m → n ≤ 5 → ∀ (v5 : Int) (s5 : m_St), qRe s n v5 s5 → v5 = 0 → Rn X (d + 13) 111 7 [some (vR 66), some (vI c), some (vI m), some (vI (n + 1))] [] s5 P)
    (l9 : n ≤ m → n ≤ 5 → ∀ (v5 : Int) (s5 : m_St), qRe s n v5 s5 → ¬ v5 = 0 → P (some (vI n)) s5)
    : Rn X (d + 13) 111 7 [some (vR 66), some (vI c), some (vI m), some (vI n)] [] s P := by
  refine r_ldI_n (m := 3) F_111_7 rfl ?_
  refine r_ldI_n (m := 2) F_111_8 rfl ?_
  refine r_icmp (t := 34) F_111_9 rfl l1 l2 ?_ ?_
  · intro e1
    replace e1 : m < n := e1
    refine r_bipush F_111_34 bi__9 ?_
    refine r_ireturn F_111_36 rt_111 ?_
    exact (l3 e1)
  · intro e2
    replace e2 : n ≤ m := (Int.not_lt.mp e2)
    refine r_ldI_n (m := 3) F_111_12 rfl ?_
    refine r_iconst F_111_13 ?_
    refine r_icmp (t := 34) F_111_14 rfl l1 (by decide) ?_ ?_
    · intro e3
      replace e3 : 5 < n := e3
      refine r_bipush F_111_34 bi__9 ?_
      refine r_ireturn F_111_36 rt_111 ?_
      exact (l4 e2 e3)
    · intro e4
      replace e4 : n ≤ 5 := (Int.not_lt.mp e4)
      refine r_ldR_n (m := 0) F_111_17 rfl ?_
      refine r_iconst F_111_18 ?_
      refine r_ldI_n (m := 3) F_111_19 rfl ?_
      refine r_stat2 (A := [vR 66, vI 0, vI n]) (r := []) (n := 3) F_111_20 o_111 il_4_87 (by decide) rfl rfl rfl rfl (lay_le n_112 rfl) ?_
      refine sp_reaches (l5 e2 e4) n0 e4 (l6 e2 e4) ?_
      intro v5 s5 q5
      show Rn _ _ _ _ _ [vI v5] _ _
      refine r_if (t := 28) F_111_23 rfl (l7 e2 e4 v5 s5 q5) ?_ ?_
      · intro e6
        replace e6 : v5 = 0 := e6
        refine r_iinc (m := 3) (e := (n + 1)) (L' := [some (vR 66), some (vI c), some (vI m), some (vI (n + 1))]) F_111_28 rfl rfl rfl rfl ?_
        refine r_goto (t := 7) F_111_31 rfl ?_
        exact (l8 e2 e4 v5 s5 q5 e6)
      · intro e7
        replace e7 : ¬ v5 = 0 := e7
        refine r_ldI_n (m := 3) F_111_26 rfl ?_
        refine r_ireturn F_111_27 rt_111 ?_
        exact (l9 e2 e4 v5 s5 q5 e7)
theorem t_X4_talksTo {X : List Int32} {d : Nat} {s : m_St} {P : Option Value → m_St → Prop} {c n : Int}
    (l1 : inR n)
    (l2 : tkok (m_upd (m_upd (m_upd s 66 4 c) 66 5 0) 66 6 15))
    (l3 : 0 ≤ (min n 5))
    (l4 : (min n 5) ≤ 5)
    (l5 : inR ((m_upd (m_upd (m_upd s 66 4 c) 66 5 0) 66 6 15) 66 4))
    (l6 : 0 ≤ (m_upd (m_upd (m_upd s 66 4 c) 66 5 0) 66 6 15) 66 6)
    (l7 : (m_upd (m_upd (m_upd s 66 4 c) 66 5 0) 66 6 15) 66 6 < 16)
    (l8 : P (some (vJ ((taS (m_upd (m_upd (m_upd s 66 4 c) 66 5 0) 66 6 15) (min n 5) 1) 66 5))) (taS (m_upd (m_upd (m_upd s 66 4 c) 66 5 0) 66 6 15) (min n 5) 1))
    : Cl X (d + 13) 117 [vR 66, vI c, vI n] s P := by
  refine Cl_of n_117 rfl ?_
  show Rn _ _ _ _ [some (vR 66), some (vI c), some (vI n)] [] _ _
  refine r_ldR_n (m := 0) F_117_0 rfl ?_
  refine r_ldI_n (m := 1) F_117_1 rfl ?_
  refine r_putI (J := 4) F_117_2 o_117 fl_4_29 ty_66 (by decide) rfl kd_66_4 pf_4_4 ?_
  refine r_ldR_n (m := 0) F_117_5 rfl ?_
  refine r_lconst (e := 0) F_117_6 rfl ?_
  refine r_putJ (J := 5) F_117_7 o_117 fl_4_32 ty_66 (by decide) rfl kd_66_5 pf_4_5 ?_
  refine r_ldR_n (m := 0) F_117_10 rfl ?_
  refine r_bipush F_117_11 bi_15 ?_
  refine r_putI (J := 6) F_117_13 o_117 fl_4_36 ty_66 (by decide) rfl kd_66_6 pf_4_6 ?_
  refine r_ldR_n (m := 0) F_117_16 rfl ?_
  refine r_ldI_n (m := 2) F_117_17 rfl ?_
  refine r_iconst F_117_18 ?_
  refine r_mmin F_117_19 o_117 iln_4_103 mm_4_103 rfl l1 (by decide) ?_
  refine r_lconst (e := 1) F_117_22 rfl ?_
  refine r_stat2 (A := [vR 66, vI (min n 5), vJ 1]) (r := []) (n := 3) F_117_23 o_117 il_4_108 (by decide) rfl rfl rfl rfl (lay_le n_118 rfl) ?_
  refine sp_tryAll l2 l3 l4 l5 l6 l7 ?_
  show Rn _ _ _ _ _ [] _ _
  refine r_ldR_n (m := 0) F_117_26 rfl ?_
  refine r_getJ (J := 5) (e := ((taS (m_upd (m_upd (m_upd s 66 4 c) 66 5 0) 66 6 15) (min n 5) 1) 66 5)) F_117_27 o_117 fl_4_32 ty_66 (by decide) rfl kd_66_5 rfl ?_
  refine r_lreturn F_117_30 rt_117 ?_
  exact l8
theorem t_X4_duelled {X : List Int32} {d : Nat} {s : m_St} {P : Option Value → m_St → Prop} {n : Int}
    (l1 : inR n)
    (l2 : tkok s)
    (l3 : 0 ≤ (min n 5))
    (l4 : (min n 5) ≤ 5)
    (l5 : P (some (vI (bFs s (min n 5) 1))) s)
    : Cl X (d + 13) 133 [vR 66, vI n] s P := by
  refine Cl_of n_133 rfl ?_
  show Rn _ _ _ _ [some (vR 66), some (vI n)] [] _ _
  refine r_ldR_n (m := 0) F_133_0 rfl ?_
  refine r_ldI_n (m := 1) F_133_1 rfl ?_
  refine r_iconst F_133_2 ?_
  refine r_mmin F_133_3 o_133 iln_4_103 mm_4_103 rfl l1 (by decide) ?_
  refine r_iconst F_133_6 ?_
  refine r_stat2 (A := [vR 66, vI (min n 5), vI 1]) (r := []) (n := 3) F_133_7 o_133 il_4_119 (by decide) rfl rfl rfl rfl (lay_le n_134 rfl) ?_
  refine sp_bestFor l2 l3 l4 ?_
  show Rn _ _ _ _ _ [vI (bFs s (min n 5) 1)] _ _
  refine r_ireturn F_133_10 rt_133 ?_
  exact l5
theorem t_X4_hearSome {X : List Int32} {d : Nat} {s : m_St} {P : Option Value → m_St → Prop} {r p : Int} (h0 : 0 ≤ r) (h6 : r < 6) (hz : ¬ (s 2 r) = (-1))
    (l1 : inR r)
    (l2 : inR (s 2 r))
    (l3 : inR (min (s 2 r) 6))
    (l4 : Rn X (d + 13) 136 21 [some (vR 66), some (vR 1), some (vI r), some (vI p), some (vI 0)] [] (m_upd s 66 8 (max 0 (min (s 2 r) 6))) P)
    : Cl X (d + 13) 136 [vR 66, vR 1, vI r, vI p] s P := by
  refine Cl_of n_136 rfl ?_
  show Rn _ _ _ _ [some (vR 66), some (vR 1), some (vI r), some (vI p), none] [] _ _
  refine r_ldR_n (m := 0) F_136_0 rfl ?_
  refine r_iconst F_136_1 ?_
  refine r_ldR_n (m := 1) F_136_2 rfl ?_
  refine r_ldI_n (m := 2) F_136_3 rfl ?_
  refine r_virt2 (A := [vI r]) (r := [vI 0, vR 66]) (n := 1) F_136_4 o_136 il_4_123 rfl rfl rfl rfl ty_1 vy_16 (lay_le n_16 rfl) ?_
  refine Cl_of n_16 rfl ?_
  show Rn _ _ _ _ [some (vR 1), some (vI r)] [] _ _
  refine r_ldR_n (m := 0) F_16_0 rfl ?_
  refine r_ldI_n (m := 1) F_16_1 rfl ?_
  refine r_virt2 (A := [vI r]) (r := []) (n := 1) F_16_2 o_16 il_3_32 rfl rfl rfl rfl ty_1 vy_9 (lay_le n_9 rfl) ?_
  refine Cl_of n_9 rfl ?_
  show Rn _ _ _ _ [some (vR 1), some (vI r)] [] _ _
  refine r_ldI_n (m := 1) F_9_0 rfl ?_
  refine r_ifF (t := 17) F_9_1 rfl l1 (Int.not_lt.mpr h0) ?_
  refine r_ldI_n (m := 1) F_9_4 rfl ?_
  refine r_ldR_n (m := 0) F_9_5 rfl ?_
  refine r_getR (J := 0) F_9_6 o_9 fl_3_19 ty_1 (by decide) rfl (kd2 kd_1_0 (by decide)) (kd9 kd_1_0 (by decide)) rf_1_0 ?_
  refine r_alen F_9_9 ty_2 (by decide) ln_2 ?_
  refine r_icmpF (t := 17) F_9_10 rfl l1 (by decide) (Int.not_le.mpr h6) ?_
  refine r_iconst F_9_13 ?_
  refine r_goto (t := 18) F_9_14 rfl ?_
  refine r_zreturn F_9_18 rt_9 (Or.inr rfl) ?_
  show Rn _ _ _ _ _ [vI 1] _ _
  refine r_ifF (t := 17) F_16_5 rfl (by decide) (by show ¬ ((1 : Int) = 0); decide) ?_
  refine r_ldR_n (m := 0) F_16_8 rfl ?_
  refine r_getR (J := 0) F_16_9 o_16 fl_3_19 ty_1 (by decide) rfl (kd2 kd_1_0 (by decide)) (kd9 kd_1_0 (by decide)) rf_1_0 ?_
  refine r_ldI_n (m := 1) F_16_12 rfl ?_
  refine r_iald (e := (s 2 r)) F_16_13 ty_2 h0 (lt_ln ln_2 h6) rfl ?_
  refine r_goto (t := 18) F_16_14 rfl ?_
  refine r_ireturn F_16_18 rt_16 ?_
  show Rn _ _ _ _ _ [vI (s 2 r), vI 0, vR 66] _ _
  refine r_bipush F_136_7 bi_6 ?_
  refine r_mmin F_136_9 o_136 iln_4_103 mm_4_103 rfl l2 (by decide) ?_
  refine r_mmax F_136_12 o_136 iln_4_128 mm_4_128 rfl (by decide) l3 ?_
  refine r_putI (J := 8) F_136_15 o_136 fl_4_42 ty_66 (by decide) rfl kd_66_8 pf_4_8 ?_
  refine r_iconst F_136_18 ?_
  refine r_stI (m := 4) (L' := [some (vR 66), some (vR 1), some (vI r), some (vI p), some (vI 0)]) F_136_19 rfl rfl ?_
  exact l4
theorem t_X4_hearSome_21 {X : List Int32} {d : Nat} {s : m_St} {P : Option Value → m_St → Prop} {r p i : Int} (h0 : 0 ≤ r) (h6 : r < 6) (hz : ¬ (s 2 r) = (-1)) (i0 : 0 ≤ i)
    (l1 : inR i)
    (l2 : inR (s 66 8))
    (l3 : (s 66 8) ≤ i → inR p)
    (l4 : (s 66 8) ≤ i → inR (min p 12))
    (l5 : (s 66 8) ≤ i → Rn X (d + 13) 136 67 [some (vR 66), some (vR 1), some (vI r), some (vI p), some (vI 0)] [] (m_upd s 66 9 (max 0 (min p 12))) P)
    (l6 : i < (s 66 8) → inR r)
    (l7 : i < (s 66 8) → inR (s 2 r))
    (l8 : i < (s 66 8) → inR ((s 2 r) - 1))
    (l9 : i < (s 66 8) → ((s 2 r) - 1) < i → i < 6)
    (l10 : i < (s 66 8) → ((s 2 r) - 1) < i → Rn X (d + 13) 136 21 [some (vR 66), some (vR 1), some (vI r), some (vI p), some (vI (i + 1))] [] (m_upd s 72 i 0) P)
    (l11 : i < (s 66 8) → i ≤ ((s 2 r) - 1) → i < 40)
    (l12 : i < (s 66 8) → i ≤ ((s 2 r) - 1) → i < 6)
    (l13 : i < (s 66 8) → i ≤ ((s 2 r) - 1) → Rn X (d + 13) 136 21 [some (vR 66), some (vR 1), some (vI r), some (vI p), some (vI (i + 1))] [] (m_upd s 72 i (s (4 + r) i)) P)
    : Rn X (d + 13) 136 21 [some (vR 66), some (vR 1), some (vI r), some (vI p), some (vI i)] [] s P := by
  refine r_ldI (m := 4) F_136_21 rfl ?_
  refine r_ldR_n (m := 0) F_136_23 rfl ?_
  refine r_getI (J := 8) (e := (s 66 8)) F_136_24 o_136 fl_4_42 ty_66 (by decide) rfl kd_66_8 rfl ?_
  refine r_icmp (t := 50) F_136_27 rfl l1 l2 ?_ ?_
  · intro e1
    replace e1 : (s 66 8) ≤ i := e1
    refine r_ldR_n (m := 0) F_136_50 rfl ?_
    refine r_iconst F_136_51 ?_
    refine r_ldI_n (m := 3) F_136_52 rfl ?_
    refine r_bipush F_136_53 bi_12 ?_
    refine r_mmin F_136_55 o_136 iln_4_103 mm_4_103 rfl (l3 e1) (by decide) ?_
    refine r_mmax F_136_58 o_136 iln_4_128 mm_4_128 rfl (by decide) (l4 e1) ?_
    refine r_putI (J := 9) F_136_61 o_136 fl_4_45 ty_66 (by decide) rfl kd_66_9 pf_4_9 ?_
    refine r_iconst F_136_64 ?_
    refine r_stI (m := 4) (L' := [some (vR 66), some (vR 1), some (vI r), some (vI p), some (vI 0)]) F_136_65 rfl rfl ?_
    exact (l5 e1)
  · intro e2
    replace e2 : i < (s 66 8) := (Int.not_le.mp e2)
    refine r_ldR_n (m := 0) F_136_30 rfl ?_
    refine r_getR (J := 7) F_136_31 o_136 fl_4_39 ty_66 (by decide) rfl (kd2 kd_66_7 (by decide)) (kd9 kd_66_7 (by decide)) rf_66_7 ?_
    refine r_ldI (m := 4) F_136_34 rfl ?_
    refine r_ldR_n (m := 1) F_136_36 rfl ?_
    refine r_ldI_n (m := 2) F_136_37 rfl ?_
    refine r_ldI (m := 4) F_136_38 rfl ?_
    refine r_virt2 (A := [vI r, vI i]) (r := [vI i, vR 72]) (n := 2) F_136_40 o_136 il_4_131 rfl rfl rfl rfl ty_1 vy_18 (lay_le n_18 rfl) ?_
    refine Cl_of n_18 rfl ?_
    show Rn _ _ _ _ [some (vR 1), some (vI r), some (vI i)] [] _ _
    refine r_ldR_n (m := 0) F_18_0 rfl ?_
    refine r_ldI_n (m := 1) F_18_1 rfl ?_
    refine r_ldI_n (m := 2) F_18_2 rfl ?_
    refine r_iconst F_18_3 ?_
    refine r_virt2 (A := [vI r, vI i, vI 1]) (r := []) (n := 3) F_18_4 o_18 il_3_39 rfl rfl rfl rfl ty_1 vy_17 (lay_le n_17 rfl) ?_
    refine Cl_of n_17 rfl ?_
    show Rn _ _ _ _ [some (vR 1), some (vI r), some (vI i), some (vI 1)] [] _ _
    refine r_ldR_n (m := 0) F_17_0 rfl ?_
    refine r_ldI_n (m := 1) F_17_1 rfl ?_
    refine r_virt2 (A := [vI r]) (r := []) (n := 1) F_17_2 o_17 il_3_36 rfl rfl rfl rfl ty_1 vy_15 (lay_le n_15 rfl) ?_
    refine Cl_of n_15 rfl ?_
    show Rn _ _ _ _ [some (vR 1), some (vI r)] [] _ _
    refine r_ldR_n (m := 0) F_15_0 rfl ?_
    refine r_ldI_n (m := 1) F_15_1 rfl ?_
    refine r_virt2 (A := [vI r]) (r := []) (n := 1) F_15_2 o_15 il_3_28 rfl rfl rfl rfl ty_1 vy_16 (lay_le n_16 rfl) ?_
    refine Cl_of n_16 rfl ?_
    show Rn _ _ _ _ [some (vR 1), some (vI r)] [] _ _
    refine r_ldR_n (m := 0) F_16_0 rfl ?_
    refine r_ldI_n (m := 1) F_16_1 rfl ?_
    refine r_virt2 (A := [vI r]) (r := []) (n := 1) F_16_2 o_16 il_3_32 rfl rfl rfl rfl ty_1 vy_9 (lay_le n_9 rfl) ?_
    refine Cl_of n_9 rfl ?_
    show Rn _ _ _ _ [some (vR 1), some (vI r)] [] _ _
    refine r_ldI_n (m := 1) F_9_0 rfl ?_
    refine r_ifF (t := 17) F_9_1 rfl (l6 e2) (Int.not_lt.mpr h0) ?_
    refine r_ldI_n (m := 1) F_9_4 rfl ?_
    refine r_ldR_n (m := 0) F_9_5 rfl ?_
    refine r_getR (J := 0) F_9_6 o_9 fl_3_19 ty_1 (by decide) rfl (kd2 kd_1_0 (by decide)) (kd9 kd_1_0 (by decide)) rf_1_0 ?_
    refine r_alen F_9_9 ty_2 (by decide) ln_2 ?_
    refine r_icmpF (t := 17) F_9_10 rfl (l6 e2) (by decide) (Int.not_le.mpr h6) ?_
    refine r_iconst F_9_13 ?_
    refine r_goto (t := 18) F_9_14 rfl ?_
    refine r_zreturn F_9_18 rt_9 (Or.inr rfl) ?_
    show Rn _ _ _ _ _ [vI 1] _ _
    refine r_ifF (t := 17) F_16_5 rfl (by decide) (by show ¬ ((1 : Int) = 0); decide) ?_
    refine r_ldR_n (m := 0) F_16_8 rfl ?_
    refine r_getR (J := 0) F_16_9 o_16 fl_3_19 ty_1 (by decide) rfl (kd2 kd_1_0 (by decide)) (kd9 kd_1_0 (by decide)) rf_1_0 ?_
    refine r_ldI_n (m := 1) F_16_12 rfl ?_
    refine r_iald (e := (s 2 r)) F_16_13 ty_2 h0 (lt_ln ln_2 h6) rfl ?_
    refine r_goto (t := 18) F_16_14 rfl ?_
    refine r_ireturn F_16_18 rt_16 ?_
    show Rn _ _ _ _ _ [vI (s 2 r)] _ _
    refine r_iconst F_15_5 ?_
    refine r_icmpF (t := 13) F_15_6 rfl (l7 e2) (by decide) hz ?_
    refine r_iconst F_15_9 ?_
    refine r_goto (t := 14) F_15_10 rfl ?_
    refine r_zreturn F_15_14 rt_15 (Or.inr rfl) ?_
    show Rn _ _ _ _ _ [vI 1] _ _
    refine r_ifF (t := 31) F_17_5 rfl (by decide) (by show ¬ ((1 : Int) = 0); decide) ?_
    refine r_ldI_n (m := 2) F_17_8 rfl ?_
    refine r_ifF (t := 31) F_17_9 rfl l1 (Int.not_lt.mpr i0) ?_
    refine r_ldI_n (m := 3) F_17_12 rfl ?_
    refine r_ifF (t := 31) F_17_13 rfl (by decide) (by show ¬ ((1 : Int) < 0); decide) ?_
    refine r_ldI_n (m := 2) F_17_16 rfl ?_
    refine r_ldR_n (m := 0) F_17_17 rfl ?_
    refine r_ldI_n (m := 1) F_17_18 rfl ?_
    refine r_virt2 (A := [vI r]) (r := [vI i]) (n := 1) F_17_19 o_17 il_3_28 rfl rfl rfl rfl ty_1 vy_16 (lay_le n_16 rfl) ?_
    refine Cl_of n_16 rfl ?_
    show Rn _ _ _ _ [some (vR 1), some (vI r)] [] _ _
    refine r_ldR_n (m := 0) F_16_0 rfl ?_
    refine r_ldI_n (m := 1) F_16_1 rfl ?_
    refine r_virt2 (A := [vI r]) (r := []) (n := 1) F_16_2 o_16 il_3_32 rfl rfl rfl rfl ty_1 vy_9 (lay_le n_9 rfl) ?_
    refine Cl_of n_9 rfl ?_
    show Rn _ _ _ _ [some (vR 1), some (vI r)] [] _ _
    refine r_ldI_n (m := 1) F_9_0 rfl ?_
    refine r_ifF (t := 17) F_9_1 rfl (l6 e2) (Int.not_lt.mpr h0) ?_
    refine r_ldI_n (m := 1) F_9_4 rfl ?_
    refine r_ldR_n (m := 0) F_9_5 rfl ?_
    refine r_getR (J := 0) F_9_6 o_9 fl_3_19 ty_1 (by decide) rfl (kd2 kd_1_0 (by decide)) (kd9 kd_1_0 (by decide)) rf_1_0 ?_
    refine r_alen F_9_9 ty_2 (by decide) ln_2 ?_
    refine r_icmpF (t := 17) F_9_10 rfl (l6 e2) (by decide) (Int.not_le.mpr h6) ?_
    refine r_iconst F_9_13 ?_
    refine r_goto (t := 18) F_9_14 rfl ?_
    refine r_zreturn F_9_18 rt_9 (Or.inr rfl) ?_
    show Rn _ _ _ _ _ [vI 1] _ _
    refine r_ifF (t := 17) F_16_5 rfl (by decide) (by show ¬ ((1 : Int) = 0); decide) ?_
    refine r_ldR_n (m := 0) F_16_8 rfl ?_
    refine r_getR (J := 0) F_16_9 o_16 fl_3_19 ty_1 (by decide) rfl (kd2 kd_1_0 (by decide)) (kd9 kd_1_0 (by decide)) rf_1_0 ?_
    refine r_ldI_n (m := 1) F_16_12 rfl ?_
    refine r_iald (e := (s 2 r)) F_16_13 ty_2 h0 (lt_ln ln_2 h6) rfl ?_
    refine r_goto (t := 18) F_16_14 rfl ?_
    refine r_ireturn F_16_18 rt_16 ?_
    show Rn _ _ _ _ _ [vI (s 2 r), vI i] _ _
    refine r_ldI_n (m := 3) F_17_22 rfl ?_
    refine r_isub F_17_23 rfl ?_
    refine r_icmp (t := 31) F_17_24 rfl l1 (l8 e2) ?_ ?_
    · intro e3
      replace e3 : ((s 2 r) - 1) < i := e3
      refine r_iconst F_17_31 ?_
      refine r_zreturn F_17_32 rt_17 (Or.inl rfl) ?_
      show Rn _ _ _ _ _ [vI 0] _ _
      refine r_ifT (t := 21) F_18_7 rfl (by decide) (by show (0 : Int) = 0; decide) ?_
      refine r_iconst F_18_21 ?_
      refine r_ireturn F_18_22 rt_18 ?_
      show Rn _ _ _ _ _ [vI 0, vI i, vR 72] _ _
      refine r_iast F_136_43 ty_72 i0 (lt_ln ln_72 (l9 e2 e3)) ?_
      refine r_iinc (m := 4) (e := (i + 1)) (L' := [some (vR 66), some (vR 1), some (vI r), some (vI p), some (vI (i + 1))]) F_136_44 rfl rfl rfl rfl ?_
      refine r_goto (t := 21) F_136_47 rfl ?_
      exact (l10 e2 e3)
    · intro e4
      replace e4 : i ≤ ((s 2 r) - 1) := (Int.not_lt.mp e4)
      refine r_iconst F_17_27 ?_
      refine r_goto (t := 32) F_17_28 rfl ?_
      refine r_zreturn F_17_32 rt_17 (Or.inr rfl) ?_
      show Rn _ _ _ _ _ [vI 1] _ _
      refine r_ifF (t := 21) F_18_7 rfl (by decide) (by show ¬ ((1 : Int) = 0); decide) ?_
      refine r_ldR_n (m := 0) F_18_10 rfl ?_
      refine r_getR (J := 1) F_18_11 o_18 fl_3_25 ty_1 (by decide) rfl (kd2 kd_1_1 (by decide)) (kd9 kd_1_1 (by decide)) rf_1_1 ?_
      refine r_ldI_n (m := 1) F_18_14 rfl ?_
      refine r_aald F_18_15 ty_3 (by decide) h0 (lt_ln ln_3 h6) (rw_3 ⟨h0, h6⟩).2.2 ?_
      refine r_ldI_n (m := 2) F_18_16 rfl ?_
      refine r_iald (e := (s (4 + r) i)) F_18_17 (rw_3 ⟨h0, h6⟩).1 i0 (lt_ln (rw_3 ⟨h0, h6⟩).2.1 (l11 e2 e4)) rfl ?_
      refine r_goto (t := 22) F_18_18 rfl ?_
      refine r_ireturn F_18_22 rt_18 ?_
      show Rn _ _ _ _ _ [vI (s (4 + r) i), vI i, vR 72] _ _
      refine r_iast F_136_43 ty_72 i0 (lt_ln ln_72 (l12 e2 e4)) ?_
      refine r_iinc (m := 4) (e := (i + 1)) (L' := [some (vR 66), some (vR 1), some (vI r), some (vI p), some (vI (i + 1))]) F_136_44 rfl rfl rfl rfl ?_
      refine r_goto (t := 21) F_136_47 rfl ?_
      exact (l13 e2 e4)
theorem t_X4_hearSome_67 {X : List Int32} {d : Nat} {s : m_St} {P : Option Value → m_St → Prop} {r p i : Int} (h0 : 0 ≤ r) (h6 : r < 6) (hz : ¬ (s 2 r) = (-1)) (i0 : 0 ≤ i)
    (l1 : inR i)
    (l2 : 15 < i → brok s)
    (l3 : 15 < i → P none (brS s))
    (l4 : i ≤ 15 → i < 16)
    (l5 : i ≤ 15 → Rn X (d + 13) 136 67 [some (vR 66), some (vR 1), some (vI r), some (vI p), some (vI (i + 1))] [] (m_upd s 73 i 0) P)
    : Rn X (d + 13) 136 67 [some (vR 66), some (vR 1), some (vI r), some (vI p), some (vI i)] [] s P := by
  refine r_ldI (m := 4) F_136_67 rfl ?_
  refine r_bipush F_136_69 bi_15 ?_
  refine r_icmp (t := 88) F_136_71 rfl l1 (by decide) ?_ ?_
  · intro e1
    replace e1 : 15 < i := e1
    refine r_ldR_n (m := 0) F_136_88 rfl ?_
    refine r_iconst F_136_89 ?_
    refine r_lconst (e := 1) F_136_90 rfl ?_
    refine r_stat2 (A := [vR 66, vI 0, vJ 1]) (r := []) (n := 3) F_136_91 o_136 il_4_134 (by decide) rfl rfl rfl rfl (lay_le n_137 rfl) ?_
    refine sp_branch (l2 e1) ?_
    show Rn _ _ _ _ _ [] _ _
    refine r_return F_136_94 rt_136 ?_
    exact (l3 e1)
  · intro e2
    replace e2 : i ≤ 15 := (Int.not_lt.mp e2)
    refine r_ldR_n (m := 0) F_136_74 rfl ?_
    refine r_getR (J := 10) F_136_75 o_136 fl_4_48 ty_66 (by decide) rfl (kd2 kd_66_10 (by decide)) (kd9 kd_66_10 (by decide)) rf_66_10 ?_
    refine r_ldI (m := 4) F_136_78 rfl ?_
    refine r_lconst (e := 0) F_136_80 rfl ?_
    refine r_last F_136_81 ty_73 i0 (lt_ln ln_73 (l4 e2)) ?_
    refine r_iinc (m := 4) (e := (i + 1)) (L' := [some (vR 66), some (vR 1), some (vI r), some (vI p), some (vI (i + 1))]) F_136_82 rfl rfl rfl rfl ?_
    refine r_goto (t := 67) F_136_85 rfl ?_
    exact (l5 e2)
theorem t_X4_chancesOf {X : List Int32} {d : Nat} {s : m_St} {P : Option Value → m_St → Prop} {c : Int}
    (l1 : Rn X d 138 5 [some (vR 66), some (vI c), some (vJ 0), none, some (vI 0)] [] s P)
    : Cl X d 138 [vR 66, vI c] s P := by
  refine Cl_of n_138 rfl ?_
  show Rn _ _ _ _ [some (vR 66), some (vI c), none, none, none] [] _ _
  refine r_lconst (e := 0) F_138_0 rfl ?_
  refine r_stJ_n (m := 2) (L' := [some (vR 66), some (vI c), some (vJ 0), none, none]) F_138_1 rfl rfl ?_
  refine r_iconst F_138_2 ?_
  refine r_stI (m := 4) (L' := [some (vR 66), some (vI c), some (vJ 0), none, some (vI 0)]) F_138_3 rfl rfl ?_
  exact l1
theorem t_X4_chancesOf_5 {X : List Int32} {d : Nat} {s : m_St} {P : Option Value → m_St → Prop} {c u a : Int} (a0 : 0 ≤ a)
    (l1 : inR a)
    (l2 : 15 < a → P (some (vJ u)) s)
    (l3 : a ≤ 15 → (iAnd (iShr a c) 1) = 0 → Rn X d 138 5 [some (vR 66), some (vI c), some (vJ u), none, some (vI (a + 1))] [] s P)
    (l4 : a ≤ 15 → ¬ (iAnd (iShr a c) 1) = 0 → a < 16)
    (l5 : a ≤ 15 → ¬ (iAnd (iShr a c) 1) = 0 → Rn X d 138 5 [some (vR 66), some (vI c), some (vJ (u + (s 73 a))), none, some (vI (a + 1))] [] s P)
    : Rn X d 138 5 [some (vR 66), some (vI c), some (vJ u), none, some (vI a)] [] s P := by
  refine r_ldI (m := 4) F_138_5 rfl ?_
  refine r_bipush F_138_7 bi_15 ?_
  refine r_icmp (t := 41) F_138_9 rfl l1 (by decide) ?_ ?_
  · intro e1
    replace e1 : 15 < a := e1
    refine r_ldJ_n (m := 2) F_138_41 rfl ?_
    refine r_lreturn F_138_42 rt_138 ?_
    exact (l2 e1)
  · intro e2
    replace e2 : a ≤ 15 := (Int.not_lt.mp e2)
    refine r_ldJ_n (m := 2) F_138_12 rfl ?_
    refine r_ldI (m := 4) F_138_13 rfl ?_
    refine r_ldI_n (m := 1) F_138_15 rfl ?_
    refine r_ishr F_138_16 rfl ?_
    refine r_iconst F_138_17 ?_
    refine r_iand F_138_18 rfl ?_
    refine r_if (t := 32) F_138_19 rfl (inR_iAnd _ _) ?_ ?_
    · intro e3
      replace e3 : (iAnd (iShr a c) 1) = 0 := e3
      refine r_lconst (e := 0) F_138_32 rfl ?_
      refine r_ladd (e := u) F_138_33 (Int.add_zero _) ?_
      refine r_stJ_n (m := 2) (L' := [some (vR 66), some (vI c), some (vJ u), none, some (vI a)]) F_138_34 rfl rfl ?_
      refine r_iinc (m := 4) (e := (a + 1)) (L' := [some (vR 66), some (vI c), some (vJ u), none, some (vI (a + 1))]) F_138_35 rfl rfl rfl rfl ?_
      refine r_goto (t := 5) F_138_38 rfl ?_
      exact (l3 e2 e3)
    · intro e4
      replace e4 : ¬ (iAnd (iShr a c) 1) = 0 := e4
      refine r_ldR_n (m := 0) F_138_22 rfl ?_
      refine r_getR (J := 10) F_138_23 o_138 fl_4_48 ty_66 (by decide) rfl (kd2 kd_66_10 (by decide)) (kd9 kd_66_10 (by decide)) rf_66_10 ?_
      refine r_ldI (m := 4) F_138_26 rfl ?_
      refine r_lald (e := (s 73 a)) F_138_28 ty_73 a0 (lt_ln ln_73 (l4 e2 e4)) rfl ?_
      refine r_goto (t := 33) F_138_29 rfl ?_
      refine r_ladd F_138_33 rfl ?_
      refine r_stJ_n (m := 2) (L' := [some (vR 66), some (vI c), some (vJ (u + (s 73 a))), none, some (vI a)]) F_138_34 rfl rfl ?_
      refine r_iinc (m := 4) (e := (a + 1)) (L' := [some (vR 66), some (vI c), some (vJ (u + (s 73 a))), none, some (vI (a + 1))]) F_138_35 rfl rfl rfl rfl ?_
      refine r_goto (t := 5) F_138_38 rfl ?_
      exact (l5 e2 e4)
theorem t_X4_allChances {X : List Int32} {d : Nat} {s : m_St} {P : Option Value → m_St → Prop}
    (l1 : Rn X d 139 4 [some (vR 66), some (vJ 0), none, some (vI 0)] [] s P)
    : Cl X d 139 [vR 66] s P := by
  refine Cl_of n_139 rfl ?_
  show Rn _ _ _ _ [some (vR 66), none, none, none] [] _ _
  refine r_lconst (e := 0) F_139_0 rfl ?_
  refine r_stJ_n (m := 1) (L' := [some (vR 66), some (vJ 0), none, none]) F_139_1 rfl rfl ?_
  refine r_iconst F_139_2 ?_
  refine r_stI_n (m := 3) (L' := [some (vR 66), some (vJ 0), none, some (vI 0)]) F_139_3 rfl rfl ?_
  exact l1
theorem t_X4_allChances_4 {X : List Int32} {d : Nat} {s : m_St} {P : Option Value → m_St → Prop} {u a : Int} (a0 : 0 ≤ a)
    (l1 : inR a)
    (l2 : 15 < a → P (some (vJ u)) s)
    (l3 : a ≤ 15 → a < 16)
    (l4 : a ≤ 15 → Rn X d 139 4 [some (vR 66), some (vJ (u + (s 73 a))), none, some (vI (a + 1))] [] s P)
    : Rn X d 139 4 [some (vR 66), some (vJ u), none, some (vI a)] [] s P := by
  refine r_ldI_n (m := 3) F_139_4 rfl ?_
  refine r_bipush F_139_5 bi_15 ?_
  refine r_icmp (t := 25) F_139_7 rfl l1 (by decide) ?_ ?_
  · intro e1
    replace e1 : 15 < a := e1
    refine r_ldJ_n (m := 1) F_139_25 rfl ?_
    refine r_lreturn F_139_26 rt_139 ?_
    exact (l2 e1)
  · intro e2
    replace e2 : a ≤ 15 := (Int.not_lt.mp e2)
    refine r_ldJ_n (m := 1) F_139_10 rfl ?_
    refine r_ldR_n (m := 0) F_139_11 rfl ?_
    refine r_getR (J := 10) F_139_12 o_139 fl_4_48 ty_66 (by decide) rfl (kd2 kd_66_10 (by decide)) (kd9 kd_66_10 (by decide)) rf_66_10 ?_
    refine r_ldI_n (m := 3) F_139_15 rfl ?_
    refine r_lald (e := (s 73 a)) F_139_16 ty_73 a0 (lt_ln ln_73 (l3 e2)) rfl ?_
    refine r_ladd F_139_17 rfl ?_
    refine r_stJ_n (m := 1) (L' := [some (vR 66), some (vJ (u + (s 73 a))), none, some (vI a)]) F_139_18 rfl rfl ?_
    refine r_iinc (m := 3) (e := (a + 1)) (L' := [some (vR 66), some (vJ (u + (s 73 a))), none, some (vI (a + 1))]) F_139_19 rfl rfl rfl rfl ?_
    refine r_goto (t := 4) F_139_22 rfl ?_
    exact (l4 e2)
