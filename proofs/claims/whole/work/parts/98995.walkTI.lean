/-! walks: the reference, chances -/
theorem n_242 : m_n 242 = 12 := by decide +kernel
theorem F_242_0 : F 242 0 (.lconst 0) 1 := ⟨1, by decide +kernel, rfl, rfl⟩
theorem F_242_1 : F 242 1 (.lstore 4) 3 := ⟨2, by decide +kernel, rfl, rfl⟩
theorem F_242_3 : F 242 3 (.lconst 1) 4 := ⟨1, by decide +kernel, rfl, rfl⟩
theorem F_242_4 : F 242 4 (.lstore 6) 6 := ⟨2, by decide +kernel, rfl, rfl⟩
theorem F_242_6 : F 242 6 (.iconst 0) 7 := ⟨1, by decide +kernel, rfl, rfl⟩
theorem F_242_7 : F 242 7 (.istore 8) 9 := ⟨2, by decide +kernel, rfl, rfl⟩
theorem F_242_9 : F 242 9 (.iload 8) 11 := ⟨2, by decide +kernel, rfl, rfl⟩
theorem F_242_11 : F 242 11 (.aload_n 0) 12 := ⟨1, by decide +kernel, rfl, rfl⟩
theorem F_242_12 : F 242 12 (.getfield 7) 15 := ⟨3, by decide +kernel, rfl, rfl⟩
theorem o_242 : m_o 242 = 6 := by decide +kernel
theorem F_242_15 : F 242 15 (.iload_n 2) 16 := ⟨1, by decide +kernel, rfl, rfl⟩
theorem F_242_16 : F 242 16 (.iaload) 17 := ⟨1, by decide +kernel, rfl, rfl⟩
theorem F_242_17 : F 242 17 (.if_icmp .ge 17) 20 := ⟨3, by decide +kernel, rfl, rfl⟩
theorem F_242_34 : F 242 34 (.iconst 0) 35 := ⟨1, by decide +kernel, rfl, rfl⟩
theorem F_242_35 : F 242 35 (.istore 8) 37 := ⟨2, by decide +kernel, rfl, rfl⟩
theorem F_242_20 : F 242 20 (.lload 6) 22 := ⟨2, by decide +kernel, rfl, rfl⟩
theorem F_242_22 : F 242 22 (.ldc2_w 245) 25 := ⟨3, by decide +kernel, rfl, rfl⟩
theorem kj_6_245 : m_k64.lookup (6, 245) = some (12, 6056) := by decide +kernel
theorem F_242_25 : F 242 25 (.lmul) 26 := ⟨1, by decide +kernel, rfl, rfl⟩
theorem F_242_26 : F 242 26 (.lstore 6) 28 := ⟨2, by decide +kernel, rfl, rfl⟩
theorem F_242_28 : F 242 28 (.iinc 8 1) 31 := ⟨3, by decide +kernel, rfl, rfl⟩
theorem F_242_31 : F 242 31 (.goto (-22)) 34 := ⟨3, by decide +kernel, rfl, rfl⟩
theorem F_242_37 : F 242 37 (.iload 8) 39 := ⟨2, by decide +kernel, rfl, rfl⟩
theorem F_242_39 : F 242 39 (.iconst 1) 40 := ⟨1, by decide +kernel, rfl, rfl⟩
theorem F_242_40 : F 242 40 (.aload_n 0) 41 := ⟨1, by decide +kernel, rfl, rfl⟩
theorem F_242_41 : F 242 41 (.getfield 7) 44 := ⟨3, by decide +kernel, rfl, rfl⟩
theorem F_242_44 : F 242 44 (.iload_n 2) 45 := ⟨1, by decide +kernel, rfl, rfl⟩
theorem F_242_45 : F 242 45 (.iaload) 46 := ⟨1, by decide +kernel, rfl, rfl⟩
theorem F_242_46 : F 242 46 (.ishl) 47 := ⟨1, by decide +kernel, rfl, rfl⟩
theorem F_242_47 : F 242 47 (.if_icmp .ge 95) 50 := ⟨3, by decide +kernel, rfl, rfl⟩
theorem F_242_142 : F 242 142 (.aload_n 0) 143 := ⟨1, by decide +kernel, rfl, rfl⟩
theorem F_242_143 : F 242 143 (.lload 4) 145 := ⟨2, by decide +kernel, rfl, rfl⟩
theorem F_242_145 : F 242 145 (.lload 6) 147 := ⟨2, by decide +kernel, rfl, rfl⟩
theorem F_242_147 : F 242 147 (.invokevirtual 250) 150 := ⟨3, by decide +kernel, rfl, rfl⟩
theorem il_6_250 : ilq 6 250 0 244 2 = true := by decide +kernel
theorem vy_244 : (m_cls 6).1 = (m_y 244).cls ∧ 6 < m_cl.length := by decide +kernel
theorem F_242_150 : F 242 150 (.ireturn) 151 := ⟨1, by decide +kernel, rfl, rfl⟩
theorem rt_242 : m_r 242 = (some .int) := by decide +kernel
theorem F_242_50 : F 242 50 (.lconst 1) 51 := ⟨1, by decide +kernel, rfl, rfl⟩
theorem F_242_51 : F 242 51 (.lstore 9) 53 := ⟨2, by decide +kernel, rfl, rfl⟩
theorem F_242_53 : F 242 53 (.iconst 0) 54 := ⟨1, by decide +kernel, rfl, rfl⟩
theorem F_242_54 : F 242 54 (.istore 11) 56 := ⟨2, by decide +kernel, rfl, rfl⟩
theorem F_242_56 : F 242 56 (.iload 11) 58 := ⟨2, by decide +kernel, rfl, rfl⟩
theorem F_242_58 : F 242 58 (.aload_n 0) 59 := ⟨1, by decide +kernel, rfl, rfl⟩
theorem F_242_59 : F 242 59 (.getfield 7) 62 := ⟨3, by decide +kernel, rfl, rfl⟩
theorem F_242_62 : F 242 62 (.iload_n 2) 63 := ⟨1, by decide +kernel, rfl, rfl⟩
theorem F_242_63 : F 242 63 (.iaload) 64 := ⟨1, by decide +kernel, rfl, rfl⟩
theorem F_242_64 : F 242 64 (.if_icmp .ge 34) 67 := ⟨3, by decide +kernel, rfl, rfl⟩
theorem F_242_98 : F 242 98 (.aload_n 0) 99 := ⟨1, by decide +kernel, rfl, rfl⟩
theorem F_242_99 : F 242 99 (.iload_n 2) 100 := ⟨1, by decide +kernel, rfl, rfl⟩
theorem F_242_100 : F 242 100 (.iload 8) 102 := ⟨2, by decide +kernel, rfl, rfl⟩
theorem F_242_102 : F 242 102 (.invokevirtual 247) 105 := ⟨3, by decide +kernel, rfl, rfl⟩
theorem il_6_247 : ilq 6 247 0 243 2 = true := by decide +kernel
theorem vy_243 : (m_cls 6).1 = (m_y 243).cls ∧ 6 < m_cl.length := by decide +kernel
theorem F_242_105 : F 242 105 (.istore 11) 107 := ⟨2, by decide +kernel, rfl, rfl⟩
theorem F_242_107 : F 242 107 (.lload 4) 109 := ⟨2, by decide +kernel, rfl, rfl⟩
theorem F_242_109 : F 242 109 (.lload 9) 111 := ⟨2, by decide +kernel, rfl, rfl⟩
theorem F_242_111 : F 242 111 (.iload_n 1) 112 := ⟨1, by decide +kernel, rfl, rfl⟩
theorem F_242_112 : F 242 112 (.bipush (-9)) 114 := ⟨2, by decide +kernel, rfl, rfl⟩
theorem F_242_114 : F 242 114 (.if_icmp .ne 11) 117 := ⟨3, by decide +kernel, rfl, rfl⟩
theorem F_242_125 : F 242 125 (.iload 11) 127 := ⟨2, by decide +kernel, rfl, rfl⟩
theorem F_242_127 : F 242 127 (.iload_n 1) 128 := ⟨1, by decide +kernel, rfl, rfl⟩
theorem F_242_128 : F 242 128 (.ishr) 129 := ⟨1, by decide +kernel, rfl, rfl⟩
theorem F_242_129 : F 242 129 (.iconst 1) 130 := ⟨1, by decide +kernel, rfl, rfl⟩
theorem F_242_130 : F 242 130 (.iand) 131 := ⟨1, by decide +kernel, rfl, rfl⟩
theorem F_242_131 : F 242 131 (.i2l) 132 := ⟨1, by decide +kernel, rfl, rfl⟩
theorem F_242_132 : F 242 132 (.lmul) 133 := ⟨1, by decide +kernel, rfl, rfl⟩
theorem F_242_133 : F 242 133 (.ladd) 134 := ⟨1, by decide +kernel, rfl, rfl⟩
theorem F_242_134 : F 242 134 (.lstore 4) 136 := ⟨2, by decide +kernel, rfl, rfl⟩
theorem F_242_136 : F 242 136 (.iinc 8 1) 139 := ⟨3, by decide +kernel, rfl, rfl⟩
theorem F_242_139 : F 242 139 (.goto (-102)) 142 := ⟨3, by decide +kernel, rfl, rfl⟩
theorem F_242_117 : F 242 117 (.iload 11) 119 := ⟨2, by decide +kernel, rfl, rfl⟩
theorem F_242_119 : F 242 119 (.invokestatic 230) 122 := ⟨3, by decide +kernel, rfl, rfl⟩
theorem F_242_122 : F 242 122 (.goto 9) 125 := ⟨3, by decide +kernel, rfl, rfl⟩
theorem F_242_67 : F 242 67 (.lload 9) 69 := ⟨2, by decide +kernel, rfl, rfl⟩
theorem F_242_69 : F 242 69 (.iload 8) 71 := ⟨2, by decide +kernel, rfl, rfl⟩
theorem F_242_71 : F 242 71 (.iload 11) 73 := ⟨2, by decide +kernel, rfl, rfl⟩
theorem F_242_73 : F 242 73 (.invokestatic 132) 76 := ⟨3, by decide +kernel, rfl, rfl⟩
theorem F_242_76 : F 242 76 (.ifCond .eq 8) 79 := ⟨3, by decide +kernel, rfl, rfl⟩
theorem F_242_84 : F 242 84 (.bipush 12) 86 := ⟨2, by decide +kernel, rfl, rfl⟩
theorem F_242_86 : F 242 86 (.iload_n 3) 87 := ⟨1, by decide +kernel, rfl, rfl⟩
theorem F_242_87 : F 242 87 (.isub) 88 := ⟨1, by decide +kernel, rfl, rfl⟩
theorem F_242_88 : F 242 88 (.i2l) 89 := ⟨1, by decide +kernel, rfl, rfl⟩
theorem F_242_89 : F 242 89 (.lmul) 90 := ⟨1, by decide +kernel, rfl, rfl⟩
theorem F_242_90 : F 242 90 (.lstore 9) 92 := ⟨2, by decide +kernel, rfl, rfl⟩
theorem F_242_92 : F 242 92 (.iinc 11 1) 95 := ⟨3, by decide +kernel, rfl, rfl⟩
theorem F_242_95 : F 242 95 (.goto (-39)) 98 := ⟨3, by decide +kernel, rfl, rfl⟩
theorem F_242_79 : F 242 79 (.iload_n 3) 80 := ⟨1, by decide +kernel, rfl, rfl⟩
theorem F_242_80 : F 242 80 (.i2l) 81 := ⟨1, by decide +kernel, rfl, rfl⟩
theorem F_242_81 : F 242 81 (.goto 8) 84 := ⟨3, by decide +kernel, rfl, rfl⟩
theorem t_X6_chance {X : List Int32} {d : Nat} {s : m_St} {P : Option Value → m_St → Prop} {c r p : Int} (h0 : 0 ≤ r) (h6 : r < 6)
    (l1 : Rn X (d + 5) 242 9 [some (vR 77), some (vI c), some (vI r), some (vI p), some (vJ 0), none, some (vJ 1), none, some (vI 0), none, none, none] [] s P)
    : Cl X (d + 5) 242 [vR 77, vI c, vI r, vI p] s P := by
  refine Cl_of n_242 rfl ?_
  show Rn _ _ _ _ [some (vR 77), some (vI c), some (vI r), some (vI p), none, none, none, none, none, none, none, none] [] _ _
  refine r_lconst (e := 0) F_242_0 rfl ?_
  refine r_stJ (m := 4) (L' := [some (vR 77), some (vI c), some (vI r), some (vI p), some (vJ 0), none, none, none, none, none, none, none]) F_242_1 rfl rfl ?_
  refine r_lconst (e := 1) F_242_3 rfl ?_
  refine r_stJ (m := 6) (L' := [some (vR 77), some (vI c), some (vI r), some (vI p), some (vJ 0), none, some (vJ 1), none, none, none, none, none]) F_242_4 rfl rfl ?_
  refine r_iconst F_242_6 ?_
  refine r_stI (m := 8) (L' := [some (vR 77), some (vI c), some (vI r), some (vI p), some (vJ 0), none, some (vJ 1), none, some (vI 0), none, none, none]) F_242_7 rfl rfl ?_
  exact l1
theorem t_X6_chance_9 {X : List Int32} {d : Nat} {s : m_St} {P : Option Value → m_St → Prop} {c r p a b l : Int} (h0 : 0 ≤ r) (h6 : r < 6) (l0 : 0 ≤ l)
    (l1 : inR l)
    (l2 : inR (s 78 r))
    (l3 : (s 78 r) ≤ l → Rn X (d + 5) 242 37 [some (vR 77), some (vI c), some (vI r), some (vI p), some (vJ a), none, some (vJ b), none, some (vI 0), none, none, none] [] s P)
    (l4 : l < (s 78 r) → Rn X (d + 5) 242 9 [some (vR 77), some (vI c), some (vI r), some (vI p), some (vJ a), none, some (vJ (b * 12)), none, some (vI (l + 1)), none, none, none] [] s P)
    : Rn X (d + 5) 242 9 [some (vR 77), some (vI c), some (vI r), some (vI p), some (vJ a), none, some (vJ b), none, some (vI l), none, none, none] [] s P := by
  refine r_ldI (m := 8) F_242_9 rfl ?_
  refine r_ldR_n (m := 0) F_242_11 rfl ?_
  refine r_getR (J := 0) F_242_12 o_242 fl_6_7 ty_77 (by decide) rfl (kd2 kd_77_0 (by decide)) (kd9 kd_77_0 (by decide)) rf_77_0 ?_
  refine r_ldI_n (m := 2) F_242_15 rfl ?_
  refine r_iald (e := (s 78 r)) F_242_16 ty_78 h0 (lt_ln ln_78 h6) rfl ?_
  refine r_icmp (t := 34) F_242_17 rfl l1 l2 ?_ ?_
  · intro e1
    replace e1 : (s 78 r) ≤ l := e1
    refine r_iconst F_242_34 ?_
    refine r_stI (m := 8) (L' := [some (vR 77), some (vI c), some (vI r), some (vI p), some (vJ a), none, some (vJ b), none, some (vI 0), none, none, none]) F_242_35 rfl rfl ?_
    exact (l3 e1)
  · intro e2
    replace e2 : l < (s 78 r) := (Int.not_le.mp e2)
    refine r_ldJ (m := 6) F_242_20 rfl ?_
    refine r_ldcJ F_242_22 o_242 kj_6_245 oj_12 ?_
    refine r_lmul F_242_25 rfl ?_
    refine r_stJ (m := 6) (L' := [some (vR 77), some (vI c), some (vI r), some (vI p), some (vJ a), none, some (vJ (b * 12)), none, some (vI l), none, none, none]) F_242_26 rfl rfl ?_
    refine r_iinc (m := 8) (e := (l + 1)) (L' := [some (vR 77), some (vI c), some (vI r), some (vI p), some (vJ a), none, some (vJ (b * 12)), none, some (vI (l + 1)), none, none, none]) F_242_28 rfl rfl rfl rfl ?_
    refine r_goto (t := 9) F_242_31 rfl ?_
    exact (l4 e2)
theorem t_X6_chance_37 {X : List Int32} {d : Nat} {s : m_St} {P : Option Value → m_St → Prop} {c r p a b l : Int} {z9 z11 : Option Value} (h0 : 0 ≤ r) (h6 : r < 6) (l0 : 0 ≤ l)
    (l1 : inR l)
    (l2 : (iShl 1 (s 78 r)) ≤ l → 0 ≤ a)
    (l3 : (iShl 1 (s 78 r)) ≤ l → 0 < b)
    (l4 : (iShl 1 (s 78 r)) ≤ l → a < 1000000000000)
    (l5 : (iShl 1 (s 78 r)) ≤ l → b < 1000000000000)
    (l6 : (iShl 1 (s 78 r)) ≤ l → P (some (vI 1)) (m_upd (m_upd s 77 12 (a / gd a b)) 77 13 (b / gd a b)))
    (l7 : l < (iShl 1 (s 78 r)) → Rn X (d + 5) 242 56 [some (vR 77), some (vI c), some (vI r), some (vI p), some (vJ a), none, some (vJ b), none, some (vI l), some (vJ 1), none, some (vI 0)] [] s P)
    : Rn X (d + 5) 242 37 [some (vR 77), some (vI c), some (vI r), some (vI p), some (vJ a), none, some (vJ b), none, some (vI l), z9, none, z11] [] s P := by
  refine r_ldI (m := 8) F_242_37 rfl ?_
  refine r_iconst F_242_39 ?_
  refine r_ldR_n (m := 0) F_242_40 rfl ?_
  refine r_getR (J := 0) F_242_41 o_242 fl_6_7 ty_77 (by decide) rfl (kd2 kd_77_0 (by decide)) (kd9 kd_77_0 (by decide)) rf_77_0 ?_
  refine r_ldI_n (m := 2) F_242_44 rfl ?_
  refine r_iald (e := (s 78 r)) F_242_45 ty_78 h0 (lt_ln ln_78 h6) rfl ?_
  refine r_ishl F_242_46 rfl ?_
  refine r_icmp (t := 142) F_242_47 rfl l1 (inR_iShl _ _) ?_ ?_
  · intro e1
    replace e1 : (iShl 1 (s 78 r)) ≤ l := e1
    refine r_ldR_n (m := 0) F_242_142 rfl ?_
    refine r_ldJ (m := 4) F_242_143 rfl ?_
    refine r_ldJ (m := 6) F_242_145 rfl ?_
    refine r_virt2 (A := [vJ a, vJ b]) (r := []) (n := 2) F_242_147 o_242 il_6_250 rfl rfl rfl rfl ty_77 vy_244 (lay_le n_244 rfl) ?_
    refine sp_tellsParts (l2 e1) (l3 e1) (l4 e1) (l5 e1) ?_
    show Rn _ _ _ _ _ [vI 1] _ _
    refine r_ireturn F_242_150 rt_242 ?_
    exact (l6 e1)
  · intro e2
    replace e2 : l < (iShl 1 (s 78 r)) := (Int.not_le.mp e2)
    refine r_lconst (e := 1) F_242_50 rfl ?_
    refine r_stJ (m := 9) (L' := [some (vR 77), some (vI c), some (vI r), some (vI p), some (vJ a), none, some (vJ b), none, some (vI l), some (vJ 1), none, z11]) F_242_51 rfl rfl ?_
    refine r_iconst F_242_53 ?_
    refine r_stI (m := 11) (L' := [some (vR 77), some (vI c), some (vI r), some (vI p), some (vJ a), none, some (vJ b), none, some (vI l), some (vJ 1), none, some (vI 0)]) F_242_54 rfl rfl ?_
    exact (l7 e2)
theorem t_X6_chance_56 {X : List Int32} {d : Nat} {s : m_St} {P : Option Value → m_St → Prop} {c r p a b l v k : Int} (h0 : 0 ≤ r) (h6 : r < 6) (l0 : 0 ≤ l) (k0 : 0 ≤ k)
    (l1 : inR k)
    (l2 : inR (s 78 r))
    (l3 : (s 78 r) ≤ k → bbk s r)
    (l4 : (s 78 r) ≤ k → l < 64)
    (l5 : (s 78 r) ≤ k → ∀ (v2 : Int) (s2 : m_St), qBb s r l v2 s2 → inR c)
    (l6 : (s 78 r) ≤ k → ∀ (v2 : Int) (s2 : m_St), qBb s r l v2 s2 → ¬ c = (-9) → Rn X (d + 5) 242 37 [some (vR 77), some (vI c), some (vI r), some (vI p), some (vJ (a + (v * (iAnd (iShr v2 c) 1)))), none, some (vJ b), none, some (vI (l + 1)), some (vJ v), none, some (vI v2)] [] s2 P)
    (l7 : (s 78 r) ≤ k → ∀ (v2 : Int) (s2 : m_St), qBb s r l v2 s2 → c = (-9) → Rn X (d + 5) 242 37 [some (vR 77), some (vI c), some (vI r), some (vI p), some (vJ (a + (v * (on16 v2)))), none, some (vJ b), none, some (vI (l + 1)), some (vJ v), none, some (vI v2)] [] s2 P)
    (l8 : k < (s 78 r) → ¬ (iAnd (iShr l k) 1) = 1 → inR (12 - p))
    (l9 : k < (s 78 r) → ¬ (iAnd (iShr l k) 1) = 1 → Rn X (d + 5) 242 56 [some (vR 77), some (vI c), some (vI r), some (vI p), some (vJ a), none, some (vJ b), none, some (vI l), some (vJ (v * (12 - p))), none, some (vI (k + 1))] [] s P)
    (l10 : k < (s 78 r) → (iAnd (iShr l k) 1) = 1 → inR p)
    (l11 : k < (s 78 r) → (iAnd (iShr l k) 1) = 1 → Rn X (d + 5) 242 56 [some (vR 77), some (vI c), some (vI r), some (vI p), some (vJ a), none, some (vJ b), none, some (vI l), some (vJ (v * p)), none, some (vI (k + 1))] [] s P)
    : Rn X (d + 5) 242 56 [some (vR 77), some (vI c), some (vI r), some (vI p), some (vJ a), none, some (vJ b), none, some (vI l), some (vJ v), none, some (vI k)] [] s P := by
  refine r_ldI (m := 11) F_242_56 rfl ?_
  refine r_ldR_n (m := 0) F_242_58 rfl ?_
  refine r_getR (J := 0) F_242_59 o_242 fl_6_7 ty_77 (by decide) rfl (kd2 kd_77_0 (by decide)) (kd9 kd_77_0 (by decide)) rf_77_0 ?_
  refine r_ldI_n (m := 2) F_242_62 rfl ?_
  refine r_iald (e := (s 78 r)) F_242_63 ty_78 h0 (lt_ln ln_78 h6) rfl ?_
  refine r_icmp (t := 98) F_242_64 rfl l1 l2 ?_ ?_
  · intro e1
    replace e1 : (s 78 r) ≤ k := e1
    refine r_ldR_n (m := 0) F_242_98 rfl ?_
    refine r_ldI_n (m := 2) F_242_99 rfl ?_
    refine r_ldI (m := 8) F_242_100 rfl ?_
    refine r_virt2 (A := [vI r, vI l]) (r := []) (n := 2) F_242_102 o_242 il_6_247 rfl rfl rfl rfl ty_77 vy_243 (lay_le n_243 rfl) ?_
    refine sp_bothBy (l3 e1) h0 h6 l0 (l4 e1) ?_
    intro v2 s2 q2
    show Rn _ _ _ _ _ [vI v2] _ _
    refine r_stI (m := 11) (L' := [some (vR 77), some (vI c), some (vI r), some (vI p), some (vJ a), none, some (vJ b), none, some (vI l), some (vJ v), none, some (vI v2)]) F_242_105 rfl rfl ?_
    refine r_ldJ (m := 4) F_242_107 rfl ?_
    refine r_ldJ (m := 9) F_242_109 rfl ?_
    refine r_ldI_n (m := 1) F_242_111 rfl ?_
    refine r_bipush F_242_112 bi__9 ?_
    refine r_icmp (t := 125) F_242_114 rfl (l5 e1 v2 s2 q2) (by decide) ?_ ?_
    · intro e3
      replace e3 : ¬ c = (-9) := e3
      refine r_ldI (m := 11) F_242_125 rfl ?_
      refine r_ldI_n (m := 1) F_242_127 rfl ?_
      refine r_ishr F_242_128 rfl ?_
      refine r_iconst F_242_129 ?_
      refine r_iand F_242_130 rfl ?_
      refine r_i2l F_242_131 (inR_iAnd _ _) ?_
      refine r_lmul F_242_132 rfl ?_
      refine r_ladd F_242_133 rfl ?_
      refine r_stJ (m := 4) (L' := [some (vR 77), some (vI c), some (vI r), some (vI p), some (vJ (a + (v * (iAnd (iShr v2 c) 1)))), none, some (vJ b), none, some (vI l), some (vJ v), none, some (vI v2)]) F_242_134 rfl rfl ?_
      refine r_iinc (m := 8) (e := (l + 1)) (L' := [some (vR 77), some (vI c), some (vI r), some (vI p), some (vJ (a + (v * (iAnd (iShr v2 c) 1)))), none, some (vJ b), none, some (vI (l + 1)), some (vJ v), none, some (vI v2)]) F_242_136 rfl rfl rfl rfl ?_
      refine r_goto (t := 37) F_242_139 rfl ?_
      exact (l6 e1 v2 s2 q2 e3)
    · intro e4
      replace e4 : c = (-9) := (Classical.not_not.mp e4)
      refine r_ldI (m := 11) F_242_117 rfl ?_
      refine r_stat2 (A := [vI v2]) (r := [vJ v, vJ a]) (n := 1) F_242_119 o_242 il_6_230 (by decide) rfl rfl rfl rfl (lay_le n_232 rfl) ?_
      refine sp_ones  ?_
      show Rn _ _ _ _ _ [vI (on16 v2), vJ v, vJ a] _ _
      refine r_goto (t := 131) F_242_122 rfl ?_
      refine r_i2l F_242_131 (inR_on16 _) ?_
      refine r_lmul F_242_132 rfl ?_
      refine r_ladd F_242_133 rfl ?_
      refine r_stJ (m := 4) (L' := [some (vR 77), some (vI c), some (vI r), some (vI p), some (vJ (a + (v * (on16 v2)))), none, some (vJ b), none, some (vI l), some (vJ v), none, some (vI v2)]) F_242_134 rfl rfl ?_
      refine r_iinc (m := 8) (e := (l + 1)) (L' := [some (vR 77), some (vI c), some (vI r), some (vI p), some (vJ (a + (v * (on16 v2)))), none, some (vJ b), none, some (vI (l + 1)), some (vJ v), none, some (vI v2)]) F_242_136 rfl rfl rfl rfl ?_
      refine r_goto (t := 37) F_242_139 rfl ?_
      exact (l7 e1 v2 s2 q2 e4)
  · intro e5
    replace e5 : k < (s 78 r) := (Int.not_le.mp e5)
    refine r_ldJ (m := 9) F_242_67 rfl ?_
    refine r_ldI (m := 8) F_242_69 rfl ?_
    refine r_ldI (m := 11) F_242_71 rfl ?_
    refine r_stat2 (A := [vI l, vI k]) (r := [vJ v]) (n := 2) F_242_73 o_242 il_6_132 (by decide) rfl rfl rfl rfl (lay_le n_194 rfl) ?_
    refine Cl_of n_194 rfl ?_
    show Rn _ _ _ _ [some (vI l), some (vI k)] [] _ _
    refine r_ldI_n (m := 0) F_194_0 rfl ?_
    refine r_ldI_n (m := 1) F_194_1 rfl ?_
    refine r_ishr F_194_2 rfl ?_
    refine r_iconst F_194_3 ?_
    refine r_iand F_194_4 rfl ?_
    refine r_iconst F_194_5 ?_
    refine r_icmp (t := 13) F_194_6 rfl (inR_iAnd _ _) (by decide) ?_ ?_
    · intro e6
      replace e6 : ¬ (iAnd (iShr l k) 1) = 1 := e6
      refine r_iconst F_194_13 ?_
      refine r_zreturn F_194_14 rt_194 (Or.inl rfl) ?_
      show Rn _ _ _ _ _ [vI 0, vJ v] _ _
      refine r_ifT (t := 84) F_242_76 rfl (by decide) (by show (0 : Int) = 0; decide) ?_
      refine r_bipush F_242_84 bi_12 ?_
      refine r_ldI_n (m := 3) F_242_86 rfl ?_
      refine r_isub F_242_87 rfl ?_
      refine r_i2l F_242_88 (l8 e5 e6) ?_
      refine r_lmul F_242_89 rfl ?_
      refine r_stJ (m := 9) (L' := [some (vR 77), some (vI c), some (vI r), some (vI p), some (vJ a), none, some (vJ b), none, some (vI l), some (vJ (v * (12 - p))), none, some (vI k)]) F_242_90 rfl rfl ?_
      refine r_iinc (m := 11) (e := (k + 1)) (L' := [some (vR 77), some (vI c), some (vI r), some (vI p), some (vJ a), none, some (vJ b), none, some (vI l), some (vJ (v * (12 - p))), none, some (vI (k + 1))]) F_242_92 rfl rfl rfl rfl ?_
      refine r_goto (t := 56) F_242_95 rfl ?_
      exact (l9 e5 e6)
    · intro e7
      replace e7 : (iAnd (iShr l k) 1) = 1 := (Classical.not_not.mp e7)
      refine r_iconst F_194_9 ?_
      refine r_goto (t := 14) F_194_10 rfl ?_
      refine r_zreturn F_194_14 rt_194 (Or.inr rfl) ?_
      show Rn _ _ _ _ _ [vI 1, vJ v] _ _
      refine r_ifF (t := 84) F_242_76 rfl (by decide) (by show ¬ ((1 : Int) = 0); decide) ?_
      refine r_ldI_n (m := 3) F_242_79 rfl ?_
      refine r_i2l F_242_80 (l10 e5 e7) ?_
      refine r_goto (t := 89) F_242_81 rfl ?_
      refine r_lmul F_242_89 rfl ?_
      refine r_stJ (m := 9) (L' := [some (vR 77), some (vI c), some (vI r), some (vI p), some (vJ a), none, some (vJ b), none, some (vI l), some (vJ (v * p)), none, some (vI k)]) F_242_90 rfl rfl ?_
      refine r_iinc (m := 11) (e := (k + 1)) (L' := [some (vR 77), some (vI c), some (vI r), some (vI p), some (vJ a), none, some (vJ b), none, some (vI l), some (vJ (v * p)), none, some (vI (k + 1))]) F_242_92 rfl rfl rfl rfl ?_
      refine r_goto (t := 56) F_242_95 rfl ?_
      exact (l11 e5 e7)
