/-! walks: the calls of the reference, the fewest -/
theorem n_225 : m_n 225 = 5 := by decide +kernel
theorem F_225_0 : F 225 0 (.iload_n 1) 1 := ⟨1, by decide +kernel, rfl, rfl⟩
theorem F_225_1 : F 225 1 (.iconst 0) 2 := ⟨1, by decide +kernel, rfl, rfl⟩
theorem F_225_2 : F 225 2 (.bipush 15) 4 := ⟨2, by decide +kernel, rfl, rfl⟩
theorem F_225_4 : F 225 4 (.invokestatic 67) 7 := ⟨3, by decide +kernel, rfl, rfl⟩
theorem o_225 : m_o 225 = 6 := by decide +kernel
theorem F_225_7 : F 225 7 (.ifCond .eq 10) 10 := ⟨3, by decide +kernel, rfl, rfl⟩
theorem F_225_17 : F 225 17 (.iconst (-1)) 18 := ⟨1, by decide +kernel, rfl, rfl⟩
theorem F_225_18 : F 225 18 (.ireturn) 19 := ⟨1, by decide +kernel, rfl, rfl⟩
theorem rt_225 : m_r 225 = (some .int) := by decide +kernel
theorem F_225_10 : F 225 10 (.iload_n 2) 11 := ⟨1, by decide +kernel, rfl, rfl⟩
theorem F_225_11 : F 225 11 (.invokestatic 71) 14 := ⟨3, by decide +kernel, rfl, rfl⟩
theorem F_225_14 : F 225 14 (.ifCond .ne 5) 17 := ⟨3, by decide +kernel, rfl, rfl⟩
theorem F_225_19 : F 225 19 (.aload_n 0) 20 := ⟨1, by decide +kernel, rfl, rfl⟩
theorem F_225_20 : F 225 20 (.invokevirtual 182) 23 := ⟨3, by decide +kernel, rfl, rfl⟩
theorem F_225_23 : F 225 23 (.ifCond .ne 6) 26 := ⟨3, by decide +kernel, rfl, rfl⟩
theorem F_225_26 : F 225 26 (.bipush (-4)) 28 := ⟨2, by decide +kernel, rfl, rfl⟩
theorem F_225_28 : F 225 28 (.ireturn) 29 := ⟨1, by decide +kernel, rfl, rfl⟩
theorem F_225_29 : F 225 29 (.aload_n 0) 30 := ⟨1, by decide +kernel, rfl, rfl⟩
theorem F_225_30 : F 225 30 (.invokevirtual 210) 33 := ⟨3, by decide +kernel, rfl, rfl⟩
theorem F_225_33 : F 225 33 (.aload_n 0) 34 := ⟨1, by decide +kernel, rfl, rfl⟩
theorem F_225_34 : F 225 34 (.iload_n 1) 35 := ⟨1, by decide +kernel, rfl, rfl⟩
theorem F_225_35 : F 225 35 (.iconst 5) 36 := ⟨1, by decide +kernel, rfl, rfl⟩
theorem F_225_36 : F 225 36 (.invokevirtual 227) 39 := ⟨3, by decide +kernel, rfl, rfl⟩
theorem il_6_227 : ilq 6 227 0 226 2 = true := by decide +kernel
theorem vy_226 : (m_cls 6).1 = (m_y 226).cls ∧ 6 < m_cl.length := by decide +kernel
theorem F_225_39 : F 225 39 (.istore_n 3) 40 := ⟨1, by decide +kernel, rfl, rfl⟩
theorem F_225_40 : F 225 40 (.iload_n 3) 41 := ⟨1, by decide +kernel, rfl, rfl⟩
theorem F_225_41 : F 225 41 (.bipush (-9)) 43 := ⟨2, by decide +kernel, rfl, rfl⟩
theorem F_225_43 : F 225 43 (.if_icmp .eq 43) 46 := ⟨3, by decide +kernel, rfl, rfl⟩
theorem F_225_86 : F 225 86 (.iload_n 3) 87 := ⟨1, by decide +kernel, rfl, rfl⟩
theorem F_225_87 : F 225 87 (.ireturn) 88 := ⟨1, by decide +kernel, rfl, rfl⟩
theorem F_225_46 : F 225 46 (.aload_n 0) 47 := ⟨1, by decide +kernel, rfl, rfl⟩
theorem F_225_47 : F 225 47 (.iload_n 2) 48 := ⟨1, by decide +kernel, rfl, rfl⟩
theorem F_225_48 : F 225 48 (.iload_n 3) 49 := ⟨1, by decide +kernel, rfl, rfl⟩
theorem F_225_49 : F 225 49 (.invokevirtual 79) 52 := ⟨3, by decide +kernel, rfl, rfl⟩
theorem F_225_52 : F 225 52 (.iconst 0) 53 := ⟨1, by decide +kernel, rfl, rfl⟩
theorem F_225_53 : F 225 53 (.istore 4) 55 := ⟨2, by decide +kernel, rfl, rfl⟩
theorem F_225_55 : F 225 55 (.iload 4) 57 := ⟨2, by decide +kernel, rfl, rfl⟩
theorem F_225_57 : F 225 57 (.iload_n 3) 58 := ⟨1, by decide +kernel, rfl, rfl⟩
theorem F_225_58 : F 225 58 (.if_icmp .ge 28) 61 := ⟨3, by decide +kernel, rfl, rfl⟩
theorem F_225_61 : F 225 61 (.aload_n 0) 62 := ⟨1, by decide +kernel, rfl, rfl⟩
theorem F_225_62 : F 225 62 (.getfield 13) 65 := ⟨3, by decide +kernel, rfl, rfl⟩
theorem F_225_65 : F 225 65 (.bipush 40) 67 := ⟨2, by decide +kernel, rfl, rfl⟩
theorem F_225_67 : F 225 67 (.iload_n 2) 68 := ⟨1, by decide +kernel, rfl, rfl⟩
theorem F_225_68 : F 225 68 (.imul) 69 := ⟨1, by decide +kernel, rfl, rfl⟩
theorem F_225_69 : F 225 69 (.iload 4) 71 := ⟨2, by decide +kernel, rfl, rfl⟩
theorem F_225_71 : F 225 71 (.iadd) 72 := ⟨1, by decide +kernel, rfl, rfl⟩
theorem F_225_72 : F 225 72 (.aload_n 0) 73 := ⟨1, by decide +kernel, rfl, rfl⟩
theorem F_225_73 : F 225 73 (.getfield 47) 76 := ⟨3, by decide +kernel, rfl, rfl⟩
theorem F_225_76 : F 225 76 (.iload 4) 78 := ⟨2, by decide +kernel, rfl, rfl⟩
theorem F_225_78 : F 225 78 (.iaload) 79 := ⟨1, by decide +kernel, rfl, rfl⟩
theorem F_225_79 : F 225 79 (.iastore) 80 := ⟨1, by decide +kernel, rfl, rfl⟩
theorem F_225_80 : F 225 80 (.iinc 4 1) 83 := ⟨3, by decide +kernel, rfl, rfl⟩
theorem F_225_83 : F 225 83 (.goto (-28)) 86 := ⟨3, by decide +kernel, rfl, rfl⟩
theorem n_229 : m_n 229 = 7 := by decide +kernel
theorem F_229_0 : F 229 0 (.aload_n 0) 1 := ⟨1, by decide +kernel, rfl, rfl⟩
theorem F_229_1 : F 229 1 (.invokevirtual 192) 4 := ⟨3, by decide +kernel, rfl, rfl⟩
theorem o_229 : m_o 229 = 6 := by decide +kernel
theorem F_229_4 : F 229 4 (.ifCond .ne 6) 7 := ⟨3, by decide +kernel, rfl, rfl⟩
theorem F_229_7 : F 229 7 (.bipush (-4)) 9 := ⟨2, by decide +kernel, rfl, rfl⟩
theorem F_229_9 : F 229 9 (.ireturn) 10 := ⟨1, by decide +kernel, rfl, rfl⟩
theorem rt_229 : m_r 229 = (some .int) := by decide +kernel
theorem F_229_10 : F 229 10 (.bipush (-9)) 12 := ⟨2, by decide +kernel, rfl, rfl⟩
theorem F_229_12 : F 229 12 (.istore_n 1) 13 := ⟨1, by decide +kernel, rfl, rfl⟩
theorem F_229_13 : F 229 13 (.iconst 4) 14 := ⟨1, by decide +kernel, rfl, rfl⟩
theorem F_229_14 : F 229 14 (.istore_n 2) 15 := ⟨1, by decide +kernel, rfl, rfl⟩
theorem F_229_15 : F 229 15 (.iconst 0) 16 := ⟨1, by decide +kernel, rfl, rfl⟩
theorem F_229_16 : F 229 16 (.istore_n 3) 17 := ⟨1, by decide +kernel, rfl, rfl⟩
theorem F_229_17 : F 229 17 (.iload_n 3) 18 := ⟨1, by decide +kernel, rfl, rfl⟩
theorem F_229_18 : F 229 18 (.aload_n 0) 19 := ⟨1, by decide +kernel, rfl, rfl⟩
theorem F_229_19 : F 229 19 (.getfield 25) 22 := ⟨3, by decide +kernel, rfl, rfl⟩
theorem F_229_22 : F 229 22 (.iconst 0) 23 := ⟨1, by decide +kernel, rfl, rfl⟩
theorem F_229_23 : F 229 23 (.iaload) 24 := ⟨1, by decide +kernel, rfl, rfl⟩
theorem F_229_24 : F 229 24 (.if_icmp .ge 95) 27 := ⟨3, by decide +kernel, rfl, rfl⟩
theorem F_229_119 : F 229 119 (.iload_n 1) 120 := ⟨1, by decide +kernel, rfl, rfl⟩
theorem F_229_120 : F 229 120 (.bipush (-9)) 122 := ⟨2, by decide +kernel, rfl, rfl⟩
theorem F_229_122 : F 229 122 (.if_icmp .ne 8) 125 := ⟨3, by decide +kernel, rfl, rfl⟩
theorem F_229_130 : F 229 130 (.aload_n 0) 131 := ⟨1, by decide +kernel, rfl, rfl⟩
theorem F_229_131 : F 229 131 (.iload_n 1) 132 := ⟨1, by decide +kernel, rfl, rfl⟩
theorem F_229_132 : F 229 132 (.iload_n 2) 133 := ⟨1, by decide +kernel, rfl, rfl⟩
theorem F_229_133 : F 229 133 (.invokevirtual 87) 136 := ⟨3, by decide +kernel, rfl, rfl⟩
theorem F_229_136 : F 229 136 (.ireturn) 137 := ⟨1, by decide +kernel, rfl, rfl⟩
theorem F_229_125 : F 229 125 (.bipush (-9)) 127 := ⟨2, by decide +kernel, rfl, rfl⟩
theorem F_229_127 : F 229 127 (.goto 9) 130 := ⟨3, by decide +kernel, rfl, rfl⟩
theorem F_229_27 : F 229 27 (.iload_n 3) 28 := ⟨1, by decide +kernel, rfl, rfl⟩
theorem F_229_28 : F 229 28 (.iconst 1) 29 := ⟨1, by decide +kernel, rfl, rfl⟩
theorem F_229_29 : F 229 29 (.iadd) 30 := ⟨1, by decide +kernel, rfl, rfl⟩
theorem F_229_30 : F 229 30 (.istore 4) 32 := ⟨2, by decide +kernel, rfl, rfl⟩
theorem F_229_32 : F 229 32 (.iload 4) 34 := ⟨2, by decide +kernel, rfl, rfl⟩
theorem F_229_34 : F 229 34 (.aload_n 0) 35 := ⟨1, by decide +kernel, rfl, rfl⟩
theorem F_229_35 : F 229 35 (.getfield 25) 38 := ⟨3, by decide +kernel, rfl, rfl⟩
theorem F_229_38 : F 229 38 (.iconst 0) 39 := ⟨1, by decide +kernel, rfl, rfl⟩
theorem F_229_39 : F 229 39 (.iaload) 40 := ⟨1, by decide +kernel, rfl, rfl⟩
theorem F_229_40 : F 229 40 (.if_icmp .ge 73) 43 := ⟨3, by decide +kernel, rfl, rfl⟩
theorem F_229_113 : F 229 113 (.iinc 3 1) 116 := ⟨3, by decide +kernel, rfl, rfl⟩
theorem F_229_116 : F 229 116 (.goto (-99)) 119 := ⟨3, by decide +kernel, rfl, rfl⟩
theorem F_229_43 : F 229 43 (.aload_n 0) 44 := ⟨1, by decide +kernel, rfl, rfl⟩
theorem F_229_44 : F 229 44 (.iload_n 3) 45 := ⟨1, by decide +kernel, rfl, rfl⟩
theorem F_229_45 : F 229 45 (.iload 4) 47 := ⟨2, by decide +kernel, rfl, rfl⟩
theorem F_229_47 : F 229 47 (.invokevirtual 201) 50 := ⟨3, by decide +kernel, rfl, rfl⟩
theorem F_229_50 : F 229 50 (.aload_n 0) 51 := ⟨1, by decide +kernel, rfl, rfl⟩
theorem F_229_51 : F 229 51 (.iconst 0) 52 := ⟨1, by decide +kernel, rfl, rfl⟩
theorem F_229_52 : F 229 52 (.iconst 3) 53 := ⟨1, by decide +kernel, rfl, rfl⟩
theorem F_229_53 : F 229 53 (.invokevirtual 227) 56 := ⟨3, by decide +kernel, rfl, rfl⟩
theorem F_229_56 : F 229 56 (.istore 5) 58 := ⟨2, by decide +kernel, rfl, rfl⟩
theorem F_229_58 : F 229 58 (.iload 5) 60 := ⟨2, by decide +kernel, rfl, rfl⟩
theorem F_229_60 : F 229 60 (.bipush (-9)) 62 := ⟨2, by decide +kernel, rfl, rfl⟩
theorem F_229_62 : F 229 62 (.if_icmp .eq 13) 65 := ⟨3, by decide +kernel, rfl, rfl⟩
theorem F_229_75 : F 229 75 (.iconst 0) 76 := ⟨1, by decide +kernel, rfl, rfl⟩
theorem F_229_76 : F 229 76 (.istore 6) 78 := ⟨2, by decide +kernel, rfl, rfl⟩
theorem F_229_78 : F 229 78 (.iload 6) 80 := ⟨2, by decide +kernel, rfl, rfl⟩
theorem F_229_80 : F 229 80 (.ifCond .eq 13) 83 := ⟨3, by decide +kernel, rfl, rfl⟩
theorem F_229_93 : F 229 93 (.iload_n 1) 94 := ⟨1, by decide +kernel, rfl, rfl⟩
theorem F_229_94 : F 229 94 (.istore_n 1) 95 := ⟨1, by decide +kernel, rfl, rfl⟩
theorem F_229_95 : F 229 95 (.iload 6) 97 := ⟨2, by decide +kernel, rfl, rfl⟩
theorem F_229_97 : F 229 97 (.ifCond .eq 8) 100 := ⟨3, by decide +kernel, rfl, rfl⟩
theorem F_229_105 : F 229 105 (.iload_n 2) 106 := ⟨1, by decide +kernel, rfl, rfl⟩
theorem F_229_106 : F 229 106 (.istore_n 2) 107 := ⟨1, by decide +kernel, rfl, rfl⟩
theorem F_229_107 : F 229 107 (.iinc 4 1) 110 := ⟨3, by decide +kernel, rfl, rfl⟩
theorem F_229_110 : F 229 110 (.goto (-78)) 113 := ⟨3, by decide +kernel, rfl, rfl⟩
theorem F_229_65 : F 229 65 (.iload 5) 67 := ⟨2, by decide +kernel, rfl, rfl⟩
theorem F_229_67 : F 229 67 (.iload_n 2) 68 := ⟨1, by decide +kernel, rfl, rfl⟩
theorem F_229_68 : F 229 68 (.if_icmp .ge 7) 71 := ⟨3, by decide +kernel, rfl, rfl⟩
theorem F_229_71 : F 229 71 (.iconst 1) 72 := ⟨1, by decide +kernel, rfl, rfl⟩
theorem F_229_72 : F 229 72 (.goto 4) 75 := ⟨3, by decide +kernel, rfl, rfl⟩
theorem F_229_83 : F 229 83 (.bipush 10) 85 := ⟨2, by decide +kernel, rfl, rfl⟩
theorem F_229_85 : F 229 85 (.iload_n 3) 86 := ⟨1, by decide +kernel, rfl, rfl⟩
theorem F_229_86 : F 229 86 (.imul) 87 := ⟨1, by decide +kernel, rfl, rfl⟩
theorem F_229_87 : F 229 87 (.iload 4) 89 := ⟨2, by decide +kernel, rfl, rfl⟩
theorem F_229_89 : F 229 89 (.iadd) 90 := ⟨1, by decide +kernel, rfl, rfl⟩
theorem F_229_90 : F 229 90 (.goto 4) 93 := ⟨3, by decide +kernel, rfl, rfl⟩
theorem F_229_100 : F 229 100 (.iload 5) 102 := ⟨2, by decide +kernel, rfl, rfl⟩
theorem F_229_102 : F 229 102 (.goto 4) 105 := ⟨3, by decide +kernel, rfl, rfl⟩
theorem t_X6_soonest {X : List Int32} {d : Nat} {s : m_St} {P : Option Value → m_St → Prop} {c r : Int}
    (l1 : inR c)
    (l2 : c < 0 → P (some (vI (-1))) s)
    (l3 : 0 ≤ c → 15 < c → P (some (vI (-1))) s)
    (l4 : 0 ≤ c → c ≤ 15 → inR r)
    (l5 : 0 ≤ c → c ≤ 15 → r < 0 → P (some (vI (-1))) s)
    (l6 : 0 ≤ c → c ≤ 15 → 0 ≤ r → 5 < r → P (some (vI (-1))) s)
    (l7 : 0 ≤ c → c ≤ 15 → 0 ≤ r → r ≤ 5 → inR (s 83 5))
    (l8 : 0 ≤ c → c ≤ 15 → 0 ≤ r → r ≤ 5 → (s 83 5) ≤ 0 → P (some (vI (-4))) s)
    (l9 : 0 ≤ c → c ≤ 15 → 0 ≤ r → r ≤ 5 → 0 < (s 83 5) → 0 ≤ ((s 83 5) - 1))
    (l10 : 0 ≤ c → c ≤ 15 → 0 ≤ r → r ≤ 5 → 0 < (s 83 5) → ((s 83 5) - 1) < 6)
    (l11 : 0 ≤ c → c ≤ 15 → 0 ≤ r → r ≤ 5 → 0 < (s 83 5) → 0 ≤ ((s 83 6) - 1))
    (l12 : 0 ≤ c → c ≤ 15 → 0 ≤ r → r ≤ 5 → 0 < (s 83 5) → ((s 83 6) - 1) < 6)
    (l13 : 0 ≤ c → c ≤ 15 → 0 ≤ r → r ≤ 5 → 0 < (s 83 5) → ∀ (s11 : m_St), qOp s ((s 83 5) - 1) ((s 83 6) - 1) s11 → opS s11)
    (l14 : 0 ≤ c → c ≤ 15 → 0 ≤ r → r ≤ 5 → 0 < (s 83 5) → ∀ (s11 : m_St), qOp s ((s 83 5) - 1) ((s 83 6) - 1) s11 → w8 (wt s11 0))
    (l15 : 0 ≤ c → c ≤ 15 → 0 ≤ r → r ≤ 5 → 0 < (s 83 5) → ∀ (s11 : m_St), qOp s ((s 83 5) - 1) ((s 83 6) - 1) s11 → c < 16)
    (l16 : 0 ≤ c → c ≤ 15 → 0 ≤ r → r ≤ 5 → 0 < (s 83 5) → ∀ (s11 : m_St), qOp s ((s 83 5) - 1) ((s 83 6) - 1) s11 → ∀ (v12 : Int) (s12 : m_St), qAg s11 c 5 v12 s12 → inR v12)
    (l17 : 0 ≤ c → c ≤ 15 → 0 ≤ r → r ≤ 5 → 0 < (s 83 5) → ∀ (s11 : m_St), qOp s ((s 83 5) - 1) ((s 83 6) - 1) s11 → ∀ (v12 : Int) (s12 : m_St), qAg s11 c 5 v12 s12 → v12 = (-9) → P (some (vI v12)) s12)
    (l18 : 0 ≤ c → c ≤ 15 → 0 ≤ r → r ≤ 5 → 0 < (s 83 5) → ∀ (s11 : m_St), qOp s ((s 83 5) - 1) ((s 83 6) - 1) s11 → ∀ (v12 : Int) (s12 : m_St), qAg s11 c 5 v12 s12 → ¬ v12 = (-9) → r < 6)
    (l19 : 0 ≤ c → c ≤ 15 → 0 ≤ r → r ≤ 5 → 0 < (s 83 5) → ∀ (s11 : m_St), qOp s ((s 83 5) - 1) ((s 83 6) - 1) s11 → ∀ (v12 : Int) (s12 : m_St), qAg s11 c 5 v12 s12 → ¬ v12 = (-9) → Rn X (d + 6) 225 55 [some (vR 77), some (vI c), some (vI r), some (vI v12), some (vI 0)] [] (rwr (m_upd s12 78 r v12) 79 (40 * r) 40 (fun _ => 0)) P)
    : Cl X (d + 6) 225 [vR 77, vI c, vI r] s P := by
  refine Cl_of n_225 rfl ?_
  show Rn _ _ _ _ [some (vR 77), some (vI c), some (vI r), none, none] [] _ _
  refine r_ldI_n (m := 1) F_225_0 rfl ?_
  refine r_iconst F_225_1 ?_
  refine r_bipush F_225_2 bi_15 ?_
  refine r_stat2 (A := [vI c, vI 0, vI 15]) (r := []) (n := 3) F_225_4 o_225 il_6_67 (by decide) rfl rfl rfl rfl (lay_le n_160 rfl) ?_
  refine Cl_of n_160 rfl ?_
  show Rn _ _ _ _ [some (vI c), some (vI 0), some (vI 15)] [] _ _
  refine r_ldI_n (m := 0) F_160_0 rfl ?_
  refine r_ldI_n (m := 1) F_160_1 rfl ?_
  refine r_icmp (t := 14) F_160_2 rfl l1 (by decide) ?_ ?_
  · intro e1
    replace e1 : c < 0 := e1
    refine r_iconst F_160_14 ?_
    refine r_zreturn F_160_15 rt_160 (Or.inl rfl) ?_
    show Rn _ _ _ _ _ [vI 0] _ _
    refine r_ifT (t := 17) F_225_7 rfl (by decide) (by show (0 : Int) = 0; decide) ?_
    refine r_iconst F_225_17 ?_
    refine r_ireturn F_225_18 rt_225 ?_
    exact (l2 e1)
  · intro e2
    replace e2 : 0 ≤ c := (Int.not_lt.mp e2)
    refine r_ldI_n (m := 0) F_160_5 rfl ?_
    refine r_ldI_n (m := 2) F_160_6 rfl ?_
    refine r_icmp (t := 14) F_160_7 rfl l1 (by decide) ?_ ?_
    · intro e3
      replace e3 : 15 < c := e3
      refine r_iconst F_160_14 ?_
      refine r_zreturn F_160_15 rt_160 (Or.inl rfl) ?_
      show Rn _ _ _ _ _ [vI 0] _ _
      refine r_ifT (t := 17) F_225_7 rfl (by decide) (by show (0 : Int) = 0; decide) ?_
      refine r_iconst F_225_17 ?_
      refine r_ireturn F_225_18 rt_225 ?_
      exact (l3 e2 e3)
    · intro e4
      replace e4 : c ≤ 15 := (Int.not_lt.mp e4)
      refine r_iconst F_160_10 ?_
      refine r_goto (t := 15) F_160_11 rfl ?_
      refine r_zreturn F_160_15 rt_160 (Or.inr rfl) ?_
      show Rn _ _ _ _ _ [vI 1] _ _
      refine r_ifF (t := 17) F_225_7 rfl (by decide) (by show ¬ ((1 : Int) = 0); decide) ?_
      refine r_ldI_n (m := 2) F_225_10 rfl ?_
      refine r_stat2 (A := [vI r]) (r := []) (n := 1) F_225_11 o_225 il_6_71 (by decide) rfl rfl rfl rfl (lay_le n_159 rfl) ?_
      refine Cl_of n_159 rfl ?_
      show Rn _ _ _ _ [some (vI r)] [] _ _
      refine r_ldI_n (m := 0) F_159_0 rfl ?_
      refine r_iconst F_159_1 ?_
      refine r_iconst F_159_2 ?_
      refine r_stat2 (A := [vI r, vI 0, vI 5]) (r := []) (n := 3) F_159_3 o_159 il_6_67 (by decide) rfl rfl rfl rfl (lay_le n_160 rfl) ?_
      refine Cl_of n_160 rfl ?_
      show Rn _ _ _ _ [some (vI r), some (vI 0), some (vI 5)] [] _ _
      refine r_ldI_n (m := 0) F_160_0 rfl ?_
      refine r_ldI_n (m := 1) F_160_1 rfl ?_
      refine r_icmp (t := 14) F_160_2 rfl (l4 e2 e4) (by decide) ?_ ?_
      · intro e5
        replace e5 : r < 0 := e5
        refine r_iconst F_160_14 ?_
        refine r_zreturn F_160_15 rt_160 (Or.inl rfl) ?_
        show Rn _ _ _ _ _ [vI 0] _ _
        refine r_zreturn F_159_6 rt_159 (Or.inl rfl) ?_
        show Rn _ _ _ _ _ [vI 0] _ _
        refine r_ifF (t := 19) F_225_14 rfl (by decide) (by show ¬ (¬ (0 : Int) = 0); decide) ?_
        refine r_iconst F_225_17 ?_
        refine r_ireturn F_225_18 rt_225 ?_
        exact (l5 e2 e4 e5)
      · intro e6
        replace e6 : 0 ≤ r := (Int.not_lt.mp e6)
        refine r_ldI_n (m := 0) F_160_5 rfl ?_
        refine r_ldI_n (m := 2) F_160_6 rfl ?_
        refine r_icmp (t := 14) F_160_7 rfl (l4 e2 e4) (by decide) ?_ ?_
        · intro e7
          replace e7 : 5 < r := e7
          refine r_iconst F_160_14 ?_
          refine r_zreturn F_160_15 rt_160 (Or.inl rfl) ?_
          show Rn _ _ _ _ _ [vI 0] _ _
          refine r_zreturn F_159_6 rt_159 (Or.inl rfl) ?_
          show Rn _ _ _ _ _ [vI 0] _ _
          refine r_ifF (t := 19) F_225_14 rfl (by decide) (by show ¬ (¬ (0 : Int) = 0); decide) ?_
          refine r_iconst F_225_17 ?_
          refine r_ireturn F_225_18 rt_225 ?_
          exact (l6 e2 e4 e6 e7)
        · intro e8
          replace e8 : r ≤ 5 := (Int.not_lt.mp e8)
          refine r_iconst F_160_10 ?_
          refine r_goto (t := 15) F_160_11 rfl ?_
          refine r_zreturn F_160_15 rt_160 (Or.inr rfl) ?_
          show Rn _ _ _ _ _ [vI 1] _ _
          refine r_zreturn F_159_6 rt_159 (Or.inr rfl) ?_
          show Rn _ _ _ _ _ [vI 1] _ _
          refine r_ifT (t := 19) F_225_14 rfl (by decide) (by show ¬ (1 : Int) = 0; decide) ?_
          refine r_ldR_n (m := 0) F_225_19 rfl ?_
          refine r_virt2 (A := []) (r := []) (n := 0) F_225_20 o_225 il_6_182 rfl rfl rfl rfl ty_77 vy_204 (lay_le n_204 rfl) ?_
          refine Cl_of n_204 rfl ?_
          show Rn _ _ _ _ [some (vR 77)] [] _ _
          refine r_ldR_n (m := 0) F_204_0 rfl ?_
          refine r_getR (J := 5) F_204_1 o_204 fl_6_25 ty_77 (by decide) rfl (kd2 kd_77_5 (by decide)) (kd9 kd_77_5 (by decide)) rf_77_5 ?_
          refine r_iconst F_204_4 ?_
          refine r_iald (e := (s 83 5)) F_204_5 ty_83 (by decide) (lt_ln ln_83 (by decide)) rfl ?_
          refine r_if (t := 13) F_204_6 rfl (l7 e2 e4 e6 e8) ?_ ?_
          · intro e9
            replace e9 : (s 83 5) ≤ 0 := e9
            refine r_iconst F_204_13 ?_
            refine r_zreturn F_204_14 rt_204 (Or.inl rfl) ?_
            show Rn _ _ _ _ _ [vI 0] _ _
            refine r_ifF (t := 29) F_225_23 rfl (by decide) (by show ¬ (¬ (0 : Int) = 0); decide) ?_
            refine r_bipush F_225_26 bi__4 ?_
            refine r_ireturn F_225_28 rt_225 ?_
            exact (l8 e2 e4 e6 e8 e9)
          · intro e10
            replace e10 : 0 < (s 83 5) := (Int.not_le.mp e10)
            refine r_iconst F_204_9 ?_
            refine r_goto (t := 14) F_204_10 rfl ?_
            refine r_zreturn F_204_14 rt_204 (Or.inr rfl) ?_
            show Rn _ _ _ _ _ [vI 1] _ _
            refine r_ifT (t := 29) F_225_23 rfl (by decide) (by show ¬ (1 : Int) = 0; decide) ?_
            refine r_ldR_n (m := 0) F_225_29 rfl ?_
            refine r_virt2 (A := []) (r := []) (n := 0) F_225_30 o_225 il_6_210 rfl rfl rfl rfl ty_77 vy_219 (lay_le n_219 rfl) ?_
            refine Cl_of n_219 rfl ?_
            show Rn _ _ _ _ [some (vR 77)] [] _ _
            refine r_ldR_n (m := 0) F_219_0 rfl ?_
            refine r_ldR_n (m := 0) F_219_1 rfl ?_
            refine r_getR (J := 5) F_219_2 o_219 fl_6_25 ty_77 (by decide) rfl (kd2 kd_77_5 (by decide)) (kd9 kd_77_5 (by decide)) rf_77_5 ?_
            refine r_iconst F_219_5 ?_
            refine r_iald (e := (s 83 5)) F_219_6 ty_83 (by decide) (lt_ln ln_83 (by decide)) rfl ?_
            refine r_iconst F_219_7 ?_
            refine r_isub F_219_8 rfl ?_
            refine r_ldR_n (m := 0) F_219_9 rfl ?_
            refine r_getR (J := 5) F_219_10 o_219 fl_6_25 ty_77 (by decide) rfl (kd2 kd_77_5 (by decide)) (kd9 kd_77_5 (by decide)) rf_77_5 ?_
            refine r_bipush F_219_13 bi_6 ?_
            refine r_iald (e := (s 83 6)) F_219_15 ty_83 (by decide) (lt_ln ln_83 (by decide)) rfl ?_
            refine r_iconst F_219_16 ?_
            refine r_isub F_219_17 rfl ?_
            refine r_virt2 (A := [vI ((s 83 5) - 1), vI ((s 83 6) - 1)]) (r := []) (n := 2) F_219_18 o_219 il_6_201 rfl rfl rfl rfl ty_77 vy_220 (lay_le n_220 rfl) ?_
            refine sp_opens (l9 e2 e4 e6 e8 e10) (l10 e2 e4 e6 e8 e10) (l11 e2 e4 e6 e8 e10) (l12 e2 e4 e6 e8 e10) ?_
            intro s11 q11
            show Rn _ _ _ _ _ [] _ _
            refine r_return F_219_21 rt_219 ?_
            show Rn _ _ _ _ _ [] _ _
            refine r_ldR_n (m := 0) F_225_33 rfl ?_
            refine r_ldI_n (m := 1) F_225_34 rfl ?_
            refine r_iconst F_225_35 ?_
            refine r_virt2 (A := [vI c, vI 5]) (r := []) (n := 2) F_225_36 o_225 il_6_227 rfl rfl rfl rfl ty_77 vy_226 (lay_le n_226 rfl) ?_
            refine sp_agreesIn (l13 e2 e4 e6 e8 e10 s11 q11) (l14 e2 e4 e6 e8 e10 s11 q11) e2 (l15 e2 e4 e6 e8 e10 s11 q11) (by decide) (by decide) ?_
            intro v12 s12 q12
            show Rn _ _ _ _ _ [vI v12] _ _
            refine r_stI_n (m := 3) (L' := [some (vR 77), some (vI c), some (vI r), some (vI v12), none]) F_225_39 rfl rfl ?_
            refine r_ldI_n (m := 3) F_225_40 rfl ?_
            refine r_bipush F_225_41 bi__9 ?_
            refine r_icmp (t := 86) F_225_43 rfl (l16 e2 e4 e6 e8 e10 s11 q11 v12 s12 q12) (by decide) ?_ ?_
            · intro e13
              replace e13 : v12 = (-9) := e13
              refine r_ldI_n (m := 3) F_225_86 rfl ?_
              refine r_ireturn F_225_87 rt_225 ?_
              exact (l17 e2 e4 e6 e8 e10 s11 q11 v12 s12 q12 e13)
            · intro e14
              replace e14 : ¬ v12 = (-9) := e14
              refine r_ldR_n (m := 0) F_225_46 rfl ?_
              refine r_ldI_n (m := 2) F_225_47 rfl ?_
              refine r_ldI_n (m := 3) F_225_48 rfl ?_
              refine r_virt2 (A := [vI r, vI v12]) (r := []) (n := 2) F_225_49 o_225 il_6_79 rfl rfl rfl rfl ty_77 vy_162 (lay_le n_162 rfl) ?_
              refine sp_lays e6 (l18 e2 e4 e6 e8 e10 s11 q11 v12 s12 q12 e14) ?_
              show Rn _ _ _ _ _ [] _ _
              refine r_iconst F_225_52 ?_
              refine r_stI (m := 4) (L' := [some (vR 77), some (vI c), some (vI r), some (vI v12), some (vI 0)]) F_225_53 rfl rfl ?_
              exact (l19 e2 e4 e6 e8 e10 s11 q11 v12 s12 q12 e14)
theorem t_X6_soonest_55 {X : List Int32} {d : Nat} {s : m_St} {P : Option Value → m_St → Prop} {c r n k : Int} (k0 : 0 ≤ k) (h0 : 0 ≤ r) (h6 : r < 6)
    (l1 : inR k)
    (l2 : inR n)
    (l3 : n ≤ k → P (some (vI n)) s)
    (l4 : k < n → k < 6)
    (l5 : k < n → 0 ≤ ((40 * r) + k))
    (l6 : k < n → ((40 * r) + k) < 240)
    (l7 : k < n → Rn X (d + 6) 225 55 [some (vR 77), some (vI c), some (vI r), some (vI n), some (vI (k + 1))] [] (m_upd s 79 ((40 * r) + k) (s 90 k)) P)
    : Rn X (d + 6) 225 55 [some (vR 77), some (vI c), some (vI r), some (vI n), some (vI k)] [] s P := by
  refine r_ldI (m := 4) F_225_55 rfl ?_
  refine r_ldI_n (m := 3) F_225_57 rfl ?_
  refine r_icmp (t := 86) F_225_58 rfl l1 l2 ?_ ?_
  · intro e1
    replace e1 : n ≤ k := e1
    refine r_ldI_n (m := 3) F_225_86 rfl ?_
    refine r_ireturn F_225_87 rt_225 ?_
    exact (l3 e1)
  · intro e2
    replace e2 : k < n := (Int.not_le.mp e2)
    refine r_ldR_n (m := 0) F_225_61 rfl ?_
    refine r_getR (J := 1) F_225_62 o_225 fl_6_13 ty_77 (by decide) rfl (kd2 kd_77_1 (by decide)) (kd9 kd_77_1 (by decide)) rf_77_1 ?_
    refine r_bipush F_225_65 bi_40 ?_
    refine r_ldI_n (m := 2) F_225_67 rfl ?_
    refine r_imul F_225_68 rfl ?_
    refine r_ldI (m := 4) F_225_69 rfl ?_
    refine r_iadd F_225_71 rfl ?_
    refine r_ldR_n (m := 0) F_225_72 rfl ?_
    refine r_getR (J := 16) F_225_73 o_225 fl_6_47 ty_77 (by decide) rfl (kd2 kd_77_16 (by decide)) (kd9 kd_77_16 (by decide)) rf_77_16 ?_
    refine r_ldI (m := 4) F_225_76 rfl ?_
    refine r_iald (e := (s 90 k)) F_225_78 ty_90 k0 (lt_ln ln_90 (l4 e2)) rfl ?_
    refine r_iast F_225_79 ty_79 (l5 e2) (lt_ln ln_79 (l6 e2)) ?_
    refine r_iinc (m := 4) (e := (k + 1)) (L' := [some (vR 77), some (vI c), some (vI r), some (vI n), some (vI (k + 1))]) F_225_80 rfl rfl rfl rfl ?_
    refine r_goto (t := 55) F_225_83 rfl ?_
    exact (l7 e2)
theorem t_X6_match {X : List Int32} {d : Nat} {s : m_St} {P : Option Value → m_St → Prop}
    (l1 : inR (s 83 0))
    (l2 : (s 83 0) ≤ 0 → P (some (vI (-4))) s)
    (l3 : 0 < (s 83 0) → Rn X (d + 6) 229 17 [some (vR 77), some (vI (-9)), some (vI 4), some (vI 0), none, none, none] [] s P)
    : Cl X (d + 6) 229 [vR 77] s P := by
  refine Cl_of n_229 rfl ?_
  show Rn _ _ _ _ [some (vR 77), none, none, none, none, none, none] [] _ _
  refine r_ldR_n (m := 0) F_229_0 rfl ?_
  refine r_virt2 (A := []) (r := []) (n := 0) F_229_1 o_229 il_6_192 rfl rfl rfl rfl ty_77 vy_209 (lay_le n_209 rfl) ?_
  refine Cl_of n_209 rfl ?_
  show Rn _ _ _ _ [some (vR 77)] [] _ _
  refine r_ldR_n (m := 0) F_209_0 rfl ?_
  refine r_getR (J := 5) F_209_1 o_209 fl_6_25 ty_77 (by decide) rfl (kd2 kd_77_5 (by decide)) (kd9 kd_77_5 (by decide)) rf_77_5 ?_
  refine r_iconst F_209_4 ?_
  refine r_iald (e := (s 83 0)) F_209_5 ty_83 (by decide) (lt_ln ln_83 (by decide)) rfl ?_
  refine r_if (t := 13) F_209_6 rfl l1 ?_ ?_
  · intro e1
    replace e1 : (s 83 0) ≤ 0 := e1
    refine r_iconst F_209_13 ?_
    refine r_zreturn F_209_14 rt_209 (Or.inl rfl) ?_
    show Rn _ _ _ _ _ [vI 0] _ _
    refine r_ifF (t := 10) F_229_4 rfl (by decide) (by show ¬ (¬ (0 : Int) = 0); decide) ?_
    refine r_bipush F_229_7 bi__4 ?_
    refine r_ireturn F_229_9 rt_229 ?_
    exact (l2 e1)
  · intro e2
    replace e2 : 0 < (s 83 0) := (Int.not_le.mp e2)
    refine r_iconst F_209_9 ?_
    refine r_goto (t := 14) F_209_10 rfl ?_
    refine r_zreturn F_209_14 rt_209 (Or.inr rfl) ?_
    show Rn _ _ _ _ _ [vI 1] _ _
    refine r_ifT (t := 10) F_229_4 rfl (by decide) (by show ¬ (1 : Int) = 0; decide) ?_
    refine r_bipush F_229_10 bi__9 ?_
    refine r_stI_n (m := 1) (L' := [some (vR 77), some (vI (-9)), none, none, none, none, none]) F_229_12 rfl rfl ?_
    refine r_iconst F_229_13 ?_
    refine r_stI_n (m := 2) (L' := [some (vR 77), some (vI (-9)), some (vI 4), none, none, none, none]) F_229_14 rfl rfl ?_
    refine r_iconst F_229_15 ?_
    refine r_stI_n (m := 3) (L' := [some (vR 77), some (vI (-9)), some (vI 4), some (vI 0), none, none, none]) F_229_16 rfl rfl ?_
    exact (l3 e2)
theorem t_X6_match_17 {X : List Int32} {d : Nat} {s : m_St} {P : Option Value → m_St → Prop} {w l i : Int} {z4 z5 z6 : Option Value} (i0 : 0 ≤ i)
    (l1 : inR i)
    (l2 : inR (s 83 0))
    (l3 : (s 83 0) ≤ i → inR w)
    (l4 : (s 83 0) ≤ i → ¬ w = (-9) → P (some (vI w)) (m_upd s 77 11 l))
    (l5 : (s 83 0) ≤ i → w = (-9) → P (some (vI (-9))) s)
    (l6 : i < (s 83 0) → Rn X (d + 6) 229 32 [some (vR 77), some (vI w), some (vI l), some (vI i), some (vI (i + 1)), z5, z6] [] s P)
    : Rn X (d + 6) 229 17 [some (vR 77), some (vI w), some (vI l), some (vI i), z4, z5, z6] [] s P := by
  refine r_ldI_n (m := 3) F_229_17 rfl ?_
  refine r_ldR_n (m := 0) F_229_18 rfl ?_
  refine r_getR (J := 5) F_229_19 o_229 fl_6_25 ty_77 (by decide) rfl (kd2 kd_77_5 (by decide)) (kd9 kd_77_5 (by decide)) rf_77_5 ?_
  refine r_iconst F_229_22 ?_
  refine r_iald (e := (s 83 0)) F_229_23 ty_83 (by decide) (lt_ln ln_83 (by decide)) rfl ?_
  refine r_icmp (t := 119) F_229_24 rfl l1 l2 ?_ ?_
  · intro e1
    replace e1 : (s 83 0) ≤ i := e1
    refine r_ldI_n (m := 1) F_229_119 rfl ?_
    refine r_bipush F_229_120 bi__9 ?_
    refine r_icmp (t := 130) F_229_122 rfl (l3 e1) (by decide) ?_ ?_
    · intro e2
      replace e2 : ¬ w = (-9) := e2
      refine r_ldR_n (m := 0) F_229_130 rfl ?_
      refine r_ldI_n (m := 1) F_229_131 rfl ?_
      refine r_ldI_n (m := 2) F_229_132 rfl ?_
      refine r_virt2 (A := [vI w, vI l]) (r := []) (n := 2) F_229_133 o_229 il_6_87 rfl rfl rfl rfl ty_77 vy_165 (lay_le n_165 rfl) ?_
      refine Cl_of n_165 rfl ?_
      show Rn _ _ _ _ [some (vR 77), some (vI w), some (vI l)] [] _ _
      refine r_ldR_n (m := 0) F_165_0 rfl ?_
      refine r_ldI_n (m := 2) F_165_1 rfl ?_
      refine r_putI (J := 11) F_165_2 o_165 fl_6_61 ty_77 (by decide) rfl kd_77_11 pf_6_11 ?_
      refine r_ldI_n (m := 1) F_165_5 rfl ?_
      refine r_ireturn F_165_6 rt_165 ?_
      show Rn _ _ _ _ _ [vI w] _ _
      refine r_ireturn F_229_136 rt_229 ?_
      exact (l4 e1 e2)
    · intro e3
      replace e3 : w = (-9) := (Classical.not_not.mp e3)
      refine r_bipush F_229_125 bi__9 ?_
      refine r_goto (t := 136) F_229_127 rfl ?_
      refine r_ireturn F_229_136 rt_229 ?_
      exact (l5 e1 e3)
  · intro e4
    replace e4 : i < (s 83 0) := (Int.not_le.mp e4)
    refine r_ldI_n (m := 3) F_229_27 rfl ?_
    refine r_iconst F_229_28 ?_
    refine r_iadd F_229_29 rfl ?_
    refine r_stI (m := 4) (L' := [some (vR 77), some (vI w), some (vI l), some (vI i), some (vI (i + 1)), z5, z6]) F_229_30 rfl rfl ?_
    exact (l6 e4)
theorem t_X6_match_32 {X : List Int32} {d : Nat} {s : m_St} {P : Option Value → m_St → Prop} {w l i j : Int} {z5 z6 : Option Value} (i0 : 0 ≤ i) (j0 : 0 ≤ j) (i6 : i < 6)
    (l1 : inR j)
    (l2 : inR (s 83 0))
    (l3 : (s 83 0) ≤ j → Rn X (d + 6) 229 17 [some (vR 77), some (vI w), some (vI l), some (vI (i + 1)), some (vI j), z5, z6] [] s P)
    (l4 : j < (s 83 0) → j < 6)
    (l5 : j < (s 83 0) → ∀ (s3 : m_St), qOp s i j s3 → opS s3)
    (l6 : j < (s 83 0) → ∀ (s3 : m_St), qOp s i j s3 → w8 (wt s3 0))
    (l7 : j < (s 83 0) → ∀ (s3 : m_St), qOp s i j s3 → ∀ (v4 : Int) (s4 : m_St), qAg s3 0 3 v4 s4 → inR v4)
    (l8 : j < (s 83 0) → ∀ (s3 : m_St), qOp s i j s3 → ∀ (v4 : Int) (s4 : m_St), qAg s3 0 3 v4 s4 → v4 = (-9) → Rn X (d + 6) 229 32 [some (vR 77), some (vI w), some (vI l), some (vI i), some (vI (j + 1)), some (vI v4), some (vI 0)] [] s4 P)
    (l9 : j < (s 83 0) → ∀ (s3 : m_St), qOp s i j s3 → ∀ (v4 : Int) (s4 : m_St), qAg s3 0 3 v4 s4 → ¬ v4 = (-9) → inR l)
    (l10 : j < (s 83 0) → ∀ (s3 : m_St), qOp s i j s3 → ∀ (v4 : Int) (s4 : m_St), qAg s3 0 3 v4 s4 → ¬ v4 = (-9) → l ≤ v4 → Rn X (d + 6) 229 32 [some (vR 77), some (vI w), some (vI l), some (vI i), some (vI (j + 1)), some (vI v4), some (vI 0)] [] s4 P)
    (l11 : j < (s 83 0) → ∀ (s3 : m_St), qOp s i j s3 → ∀ (v4 : Int) (s4 : m_St), qAg s3 0 3 v4 s4 → ¬ v4 = (-9) → v4 < l → Rn X (d + 6) 229 32 [some (vR 77), some (vI ((10 * i) + j)), some (vI v4), some (vI i), some (vI (j + 1)), some (vI v4), some (vI 1)] [] s4 P)
    : Rn X (d + 6) 229 32 [some (vR 77), some (vI w), some (vI l), some (vI i), some (vI j), z5, z6] [] s P := by
  refine r_ldI (m := 4) F_229_32 rfl ?_
  refine r_ldR_n (m := 0) F_229_34 rfl ?_
  refine r_getR (J := 5) F_229_35 o_229 fl_6_25 ty_77 (by decide) rfl (kd2 kd_77_5 (by decide)) (kd9 kd_77_5 (by decide)) rf_77_5 ?_
  refine r_iconst F_229_38 ?_
  refine r_iald (e := (s 83 0)) F_229_39 ty_83 (by decide) (lt_ln ln_83 (by decide)) rfl ?_
  refine r_icmp (t := 113) F_229_40 rfl l1 l2 ?_ ?_
  · intro e1
    replace e1 : (s 83 0) ≤ j := e1
    refine r_iinc (m := 3) (e := (i + 1)) (L' := [some (vR 77), some (vI w), some (vI l), some (vI (i + 1)), some (vI j), z5, z6]) F_229_113 rfl rfl rfl rfl ?_
    refine r_goto (t := 17) F_229_116 rfl ?_
    exact (l3 e1)
  · intro e2
    replace e2 : j < (s 83 0) := (Int.not_le.mp e2)
    refine r_ldR_n (m := 0) F_229_43 rfl ?_
    refine r_ldI_n (m := 3) F_229_44 rfl ?_
    refine r_ldI (m := 4) F_229_45 rfl ?_
    refine r_virt2 (A := [vI i, vI j]) (r := []) (n := 2) F_229_47 o_229 il_6_201 rfl rfl rfl rfl ty_77 vy_220 (lay_le n_220 rfl) ?_
    refine sp_opens i0 i6 j0 (l4 e2) ?_
    intro s3 q3
    show Rn _ _ _ _ _ [] _ _
    refine r_ldR_n (m := 0) F_229_50 rfl ?_
    refine r_iconst F_229_51 ?_
    refine r_iconst F_229_52 ?_
    refine r_virt2 (A := [vI 0, vI 3]) (r := []) (n := 2) F_229_53 o_229 il_6_227 rfl rfl rfl rfl ty_77 vy_226 (lay_le n_226 rfl) ?_
    refine sp_agreesIn (l5 e2 s3 q3) (l6 e2 s3 q3) (by decide) (by decide) (by decide) (by decide) ?_
    intro v4 s4 q4
    show Rn _ _ _ _ _ [vI v4] _ _
    refine r_stI (m := 5) (L' := [some (vR 77), some (vI w), some (vI l), some (vI i), some (vI j), some (vI v4), z6]) F_229_56 rfl rfl ?_
    refine r_ldI (m := 5) F_229_58 rfl ?_
    refine r_bipush F_229_60 bi__9 ?_
    refine r_icmp (t := 75) F_229_62 rfl (l7 e2 s3 q3 v4 s4 q4) (by decide) ?_ ?_
    · intro e5
      replace e5 : v4 = (-9) := e5
      refine r_iconst F_229_75 ?_
      refine r_stI (m := 6) (L' := [some (vR 77), some (vI w), some (vI l), some (vI i), some (vI j), some (vI v4), some (vI 0)]) F_229_76 rfl rfl ?_
      refine r_ldI (m := 6) F_229_78 rfl ?_
      refine r_ifT (t := 93) F_229_80 rfl (by decide) (by show (0 : Int) = 0; decide) ?_
      refine r_ldI_n (m := 1) F_229_93 rfl ?_
      refine r_stI_n (m := 1) (L' := [some (vR 77), some (vI w), some (vI l), some (vI i), some (vI j), some (vI v4), some (vI 0)]) F_229_94 rfl rfl ?_
      refine r_ldI (m := 6) F_229_95 rfl ?_
      refine r_ifT (t := 105) F_229_97 rfl (by decide) (by show (0 : Int) = 0; decide) ?_
      refine r_ldI_n (m := 2) F_229_105 rfl ?_
      refine r_stI_n (m := 2) (L' := [some (vR 77), some (vI w), some (vI l), some (vI i), some (vI j), some (vI v4), some (vI 0)]) F_229_106 rfl rfl ?_
      refine r_iinc (m := 4) (e := (j + 1)) (L' := [some (vR 77), some (vI w), some (vI l), some (vI i), some (vI (j + 1)), some (vI v4), some (vI 0)]) F_229_107 rfl rfl rfl rfl ?_
      refine r_goto (t := 32) F_229_110 rfl ?_
      exact (l8 e2 s3 q3 v4 s4 q4 e5)
    · intro e6
      replace e6 : ¬ v4 = (-9) := e6
      refine r_ldI (m := 5) F_229_65 rfl ?_
      refine r_ldI_n (m := 2) F_229_67 rfl ?_
      refine r_icmp (t := 75) F_229_68 rfl (l7 e2 s3 q3 v4 s4 q4) (l9 e2 s3 q3 v4 s4 q4 e6) ?_ ?_
      · intro e7
        replace e7 : l ≤ v4 := e7
        refine r_iconst F_229_75 ?_
        refine r_stI (m := 6) (L' := [some (vR 77), some (vI w), some (vI l), some (vI i), some (vI j), some (vI v4), some (vI 0)]) F_229_76 rfl rfl ?_
        refine r_ldI (m := 6) F_229_78 rfl ?_
        refine r_ifT (t := 93) F_229_80 rfl (by decide) (by show (0 : Int) = 0; decide) ?_
        refine r_ldI_n (m := 1) F_229_93 rfl ?_
        refine r_stI_n (m := 1) (L' := [some (vR 77), some (vI w), some (vI l), some (vI i), some (vI j), some (vI v4), some (vI 0)]) F_229_94 rfl rfl ?_
        refine r_ldI (m := 6) F_229_95 rfl ?_
        refine r_ifT (t := 105) F_229_97 rfl (by decide) (by show (0 : Int) = 0; decide) ?_
        refine r_ldI_n (m := 2) F_229_105 rfl ?_
        refine r_stI_n (m := 2) (L' := [some (vR 77), some (vI w), some (vI l), some (vI i), some (vI j), some (vI v4), some (vI 0)]) F_229_106 rfl rfl ?_
        refine r_iinc (m := 4) (e := (j + 1)) (L' := [some (vR 77), some (vI w), some (vI l), some (vI i), some (vI (j + 1)), some (vI v4), some (vI 0)]) F_229_107 rfl rfl rfl rfl ?_
        refine r_goto (t := 32) F_229_110 rfl ?_
        exact (l10 e2 s3 q3 v4 s4 q4 e6 e7)
      · intro e8
        replace e8 : v4 < l := (Int.not_le.mp e8)
        refine r_iconst F_229_71 ?_
        refine r_goto (t := 76) F_229_72 rfl ?_
        refine r_stI (m := 6) (L' := [some (vR 77), some (vI w), some (vI l), some (vI i), some (vI j), some (vI v4), some (vI 1)]) F_229_76 rfl rfl ?_
        refine r_ldI (m := 6) F_229_78 rfl ?_
        refine r_ifF (t := 93) F_229_80 rfl (by decide) (by show ¬ ((1 : Int) = 0); decide) ?_
        refine r_bipush F_229_83 bi_10 ?_
        refine r_ldI_n (m := 3) F_229_85 rfl ?_
        refine r_imul F_229_86 rfl ?_
        refine r_ldI (m := 4) F_229_87 rfl ?_
        refine r_iadd F_229_89 rfl ?_
        refine r_goto (t := 94) F_229_90 rfl ?_
        refine r_stI_n (m := 1) (L' := [some (vR 77), some (vI ((10 * i) + j)), some (vI l), some (vI i), some (vI j), some (vI v4), some (vI 1)]) F_229_94 rfl rfl ?_
        refine r_ldI (m := 6) F_229_95 rfl ?_
        refine r_ifF (t := 105) F_229_97 rfl (by decide) (by show ¬ ((1 : Int) = 0); decide) ?_
        refine r_ldI (m := 5) F_229_100 rfl ?_
        refine r_goto (t := 106) F_229_102 rfl ?_
        refine r_stI_n (m := 2) (L' := [some (vR 77), some (vI ((10 * i) + j)), some (vI v4), some (vI i), some (vI j), some (vI v4), some (vI 1)]) F_229_106 rfl rfl ?_
        refine r_iinc (m := 4) (e := (j + 1)) (L' := [some (vR 77), some (vI ((10 * i) + j)), some (vI v4), some (vI i), some (vI (j + 1)), some (vI v4), some (vI 1)]) F_229_107 rfl rfl rfl rfl ?_
        refine r_goto (t := 32) F_229_110 rfl ?_
        exact (l11 e2 s3 q3 v4 s4 q4 e6 e8)
