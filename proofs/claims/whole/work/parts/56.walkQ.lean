/-! walks: who fits, the greatest part -/
theorem n_127 : m_n 127 = 5 := by decide +kernel
theorem F_127_0 : F 127 0 (.iconst 0) 1 := ⟨1, by decide +kernel, rfl, rfl⟩
theorem F_127_1 : F 127 1 (.istore_n 3) 2 := ⟨1, by decide +kernel, rfl, rfl⟩
theorem F_127_2 : F 127 2 (.iconst 0) 3 := ⟨1, by decide +kernel, rfl, rfl⟩
theorem F_127_3 : F 127 3 (.istore 4) 5 := ⟨2, by decide +kernel, rfl, rfl⟩
theorem F_127_5 : F 127 5 (.iload 4) 7 := ⟨2, by decide +kernel, rfl, rfl⟩
theorem F_127_7 : F 127 7 (.bipush 6) 9 := ⟨2, by decide +kernel, rfl, rfl⟩
theorem F_127_9 : F 127 9 (.if_icmp .ge 27) 12 := ⟨3, by decide +kernel, rfl, rfl⟩
theorem F_127_36 : F 127 36 (.iload_n 3) 37 := ⟨1, by decide +kernel, rfl, rfl⟩
theorem F_127_37 : F 127 37 (.ireturn) 38 := ⟨1, by decide +kernel, rfl, rfl⟩
theorem rt_127 : m_r 127 = (some .int) := by decide +kernel
theorem F_127_12 : F 127 12 (.aload_n 0) 13 := ⟨1, by decide +kernel, rfl, rfl⟩
theorem F_127_13 : F 127 13 (.iload_n 1) 14 := ⟨1, by decide +kernel, rfl, rfl⟩
theorem F_127_14 : F 127 14 (.iload_n 2) 15 := ⟨1, by decide +kernel, rfl, rfl⟩
theorem F_127_15 : F 127 15 (.iload 4) 17 := ⟨2, by decide +kernel, rfl, rfl⟩
theorem F_127_17 : F 127 17 (.invokevirtual 327) 20 := ⟨3, by decide +kernel, rfl, rfl⟩
theorem o_127 : m_o 127 = 5 := by decide +kernel
theorem il_5_327 : ilq 5 327 0 128 3 = true := by decide +kernel
theorem vy_128 : (m_cls 5).1 = (m_y 128).cls ∧ 5 < m_cl.length := by decide +kernel
theorem F_127_20 : F 127 20 (.ifCond .eq 10) 23 := ⟨3, by decide +kernel, rfl, rfl⟩
theorem F_127_30 : F 127 30 (.iinc 4 1) 33 := ⟨3, by decide +kernel, rfl, rfl⟩
theorem F_127_33 : F 127 33 (.goto (-28)) 36 := ⟨3, by decide +kernel, rfl, rfl⟩
theorem F_127_23 : F 127 23 (.iload_n 3) 24 := ⟨1, by decide +kernel, rfl, rfl⟩
theorem F_127_24 : F 127 24 (.iconst 1) 25 := ⟨1, by decide +kernel, rfl, rfl⟩
theorem F_127_25 : F 127 25 (.iload 4) 27 := ⟨2, by decide +kernel, rfl, rfl⟩
theorem F_127_27 : F 127 27 (.ishl) 28 := ⟨1, by decide +kernel, rfl, rfl⟩
theorem F_127_28 : F 127 28 (.ior) 29 := ⟨1, by decide +kernel, rfl, rfl⟩
theorem F_127_29 : F 127 29 (.istore_n 3) 30 := ⟨1, by decide +kernel, rfl, rfl⟩
theorem n_130 : m_n 130 = 8 := by decide +kernel
theorem F_130_0 : F 130 0 (.iconst 0) 1 := ⟨1, by decide +kernel, rfl, rfl⟩
theorem F_130_1 : F 130 1 (.istore 4) 3 := ⟨2, by decide +kernel, rfl, rfl⟩
theorem F_130_3 : F 130 3 (.iconst 0) 4 := ⟨1, by decide +kernel, rfl, rfl⟩
theorem F_130_4 : F 130 4 (.istore 5) 6 := ⟨2, by decide +kernel, rfl, rfl⟩
theorem F_130_6 : F 130 6 (.iload 5) 8 := ⟨2, by decide +kernel, rfl, rfl⟩
theorem F_130_8 : F 130 8 (.bipush 6) 10 := ⟨2, by decide +kernel, rfl, rfl⟩
theorem F_130_10 : F 130 10 (.if_icmp .ge 73) 13 := ⟨3, by decide +kernel, rfl, rfl⟩
theorem F_130_83 : F 130 83 (.iload 4) 85 := ⟨2, by decide +kernel, rfl, rfl⟩
theorem F_130_85 : F 130 85 (.ireturn) 86 := ⟨1, by decide +kernel, rfl, rfl⟩
theorem rt_130 : m_r 130 = (some .int) := by decide +kernel
theorem F_130_13 : F 130 13 (.iconst 0) 14 := ⟨1, by decide +kernel, rfl, rfl⟩
theorem F_130_14 : F 130 14 (.istore 6) 16 := ⟨2, by decide +kernel, rfl, rfl⟩
theorem F_130_16 : F 130 16 (.iconst 0) 17 := ⟨1, by decide +kernel, rfl, rfl⟩
theorem F_130_17 : F 130 17 (.istore 7) 19 := ⟨2, by decide +kernel, rfl, rfl⟩
theorem F_130_19 : F 130 19 (.iload 7) 21 := ⟨2, by decide +kernel, rfl, rfl⟩
theorem F_130_21 : F 130 21 (.bipush 6) 23 := ⟨2, by decide +kernel, rfl, rfl⟩
theorem F_130_23 : F 130 23 (.if_icmp .ge 45) 26 := ⟨3, by decide +kernel, rfl, rfl⟩
theorem F_130_68 : F 130 68 (.iload 4) 70 := ⟨2, by decide +kernel, rfl, rfl⟩
theorem F_130_70 : F 130 70 (.iload 6) 72 := ⟨2, by decide +kernel, rfl, rfl⟩
theorem F_130_72 : F 130 72 (.invokestatic 340) 75 := ⟨3, by decide +kernel, rfl, rfl⟩
theorem mm_5_340 : m_mm.lookup (5, 340) = some (0, 4028) := by decide +kernel
theorem o_130 : m_o 130 = 5 := by decide +kernel
theorem iln_5_340 : m_il.lookup (5, 340) = none := by decide +kernel
theorem F_130_75 : F 130 75 (.istore 4) 77 := ⟨2, by decide +kernel, rfl, rfl⟩
theorem F_130_77 : F 130 77 (.iinc 5 1) 80 := ⟨3, by decide +kernel, rfl, rfl⟩
theorem F_130_80 : F 130 80 (.goto (-74)) 83 := ⟨3, by decide +kernel, rfl, rfl⟩
theorem F_130_26 : F 130 26 (.iload_n 2) 27 := ⟨1, by decide +kernel, rfl, rfl⟩
theorem F_130_27 : F 130 27 (.iload 5) 29 := ⟨2, by decide +kernel, rfl, rfl⟩
theorem F_130_29 : F 130 29 (.ishr) 30 := ⟨1, by decide +kernel, rfl, rfl⟩
theorem F_130_30 : F 130 30 (.iload_n 2) 31 := ⟨1, by decide +kernel, rfl, rfl⟩
theorem F_130_31 : F 130 31 (.iload 7) 33 := ⟨2, by decide +kernel, rfl, rfl⟩
theorem F_130_33 : F 130 33 (.ishr) 34 := ⟨1, by decide +kernel, rfl, rfl⟩
theorem F_130_34 : F 130 34 (.iand) 35 := ⟨1, by decide +kernel, rfl, rfl⟩
theorem F_130_35 : F 130 35 (.iconst 1) 36 := ⟨1, by decide +kernel, rfl, rfl⟩
theorem F_130_36 : F 130 36 (.iand) 37 := ⟨1, by decide +kernel, rfl, rfl⟩
theorem F_130_37 : F 130 37 (.ifCond .eq 25) 40 := ⟨3, by decide +kernel, rfl, rfl⟩
theorem F_130_62 : F 130 62 (.iinc 7 1) 65 := ⟨3, by decide +kernel, rfl, rfl⟩
theorem F_130_65 : F 130 65 (.goto (-46)) 68 := ⟨3, by decide +kernel, rfl, rfl⟩
theorem F_130_40 : F 130 40 (.aload_n 0) 41 := ⟨1, by decide +kernel, rfl, rfl⟩
theorem F_130_41 : F 130 41 (.iload_n 1) 42 := ⟨1, by decide +kernel, rfl, rfl⟩
theorem F_130_42 : F 130 42 (.iload 5) 44 := ⟨2, by decide +kernel, rfl, rfl⟩
theorem F_130_44 : F 130 44 (.iload_n 3) 45 := ⟨1, by decide +kernel, rfl, rfl⟩
theorem F_130_45 : F 130 45 (.invokevirtual 337) 48 := ⟨3, by decide +kernel, rfl, rfl⟩
theorem il_5_337 : ilq 5 337 0 131 3 = true := by decide +kernel
theorem vy_131 : (m_cls 5).1 = (m_y 131).cls ∧ 5 < m_cl.length := by decide +kernel
theorem F_130_48 : F 130 48 (.aload_n 0) 49 := ⟨1, by decide +kernel, rfl, rfl⟩
theorem F_130_49 : F 130 49 (.iload_n 1) 50 := ⟨1, by decide +kernel, rfl, rfl⟩
theorem F_130_50 : F 130 50 (.iload 7) 52 := ⟨2, by decide +kernel, rfl, rfl⟩
theorem F_130_52 : F 130 52 (.iload_n 3) 53 := ⟨1, by decide +kernel, rfl, rfl⟩
theorem F_130_53 : F 130 53 (.invokevirtual 337) 56 := ⟨3, by decide +kernel, rfl, rfl⟩
theorem F_130_56 : F 130 56 (.if_icmp .ne 6) 59 := ⟨3, by decide +kernel, rfl, rfl⟩
theorem F_130_59 : F 130 59 (.iinc 6 1) 62 := ⟨3, by decide +kernel, rfl, rfl⟩
theorem t_X5_kindsBy {X : List Int32} {d : Nat} {s : m_St} {P : Option Value → m_St → Prop} {i r : Int} (i0 : 0 ≤ i) (i6 : i < 6) (h0 : 0 ≤ r) (h6 : r < 6)
    (l1 : Rn X (d + 6) 127 5 [some (vR 0), some (vI i), some (vI r), some (vI 0), some (vI 0)] [] s P)
    : Cl X (d + 6) 127 [vR 0, vI i, vI r] s P := by
  refine Cl_of n_127 rfl ?_
  show Rn _ _ _ _ [some (vR 0), some (vI i), some (vI r), none, none] [] _ _
  refine r_iconst F_127_0 ?_
  refine r_stI_n (m := 3) (L' := [some (vR 0), some (vI i), some (vI r), some (vI 0), none]) F_127_1 rfl rfl ?_
  refine r_iconst F_127_2 ?_
  refine r_stI (m := 4) (L' := [some (vR 0), some (vI i), some (vI r), some (vI 0), some (vI 0)]) F_127_3 rfl rfl ?_
  exact l1
theorem t_X5_kindsBy_5 {X : List Int32} {d : Nat} {s : m_St} {P : Option Value → m_St → Prop} {i r z k : Int} (i0 : 0 ≤ i) (i6 : i < 6) (h0 : 0 ≤ r) (h6 : r < 6) (k0 : 0 ≤ k)
    (l1 : inR k)
    (l2 : 6 ≤ k → P (some (vI z)) s)
    (l3 : k < 6 → gok s (44 + 4 * i))
    (l4 : k < 6 → rwk s r)
    (l5 : k < 6 → 0 ≤ s 2 r)
    (l6 : k < 6 → s 2 r % 3 = 0)
    (l7 : k < 6 → atr s r)
    (l8 : k < 6 → ∀ (v3 : Int) (s3 : m_St), v3 = pb (fiA s i r k) ∧ fr74 s s3 → inR v3)
    (l9 : k < 6 → ∀ (v3 : Int) (s3 : m_St), v3 = pb (fiA s i r k) ∧ fr74 s s3 → v3 = 0 → Rn X (d + 6) 127 5 [some (vR 0), some (vI i), some (vI r), some (vI z), some (vI (k + 1))] [] s3 P)
    (l10 : k < 6 → ∀ (v3 : Int) (s3 : m_St), v3 = pb (fiA s i r k) ∧ fr74 s s3 → ¬ v3 = 0 → Rn X (d + 6) 127 5 [some (vR 0), some (vI i), some (vI r), some (vI (iOr z (iShl 1 k))), some (vI (k + 1))] [] s3 P)
    : Rn X (d + 6) 127 5 [some (vR 0), some (vI i), some (vI r), some (vI z), some (vI k)] [] s P := by
  refine r_ldI (m := 4) F_127_5 rfl ?_
  refine r_bipush F_127_7 bi_6 ?_
  refine r_icmp (t := 36) F_127_9 rfl l1 (by decide) ?_ ?_
  · intro e1
    replace e1 : 6 ≤ k := e1
    refine r_ldI_n (m := 3) F_127_36 rfl ?_
    refine r_ireturn F_127_37 rt_127 ?_
    exact (l2 e1)
  · intro e2
    replace e2 : k < 6 := (Int.not_le.mp e2)
    refine r_ldR_n (m := 0) F_127_12 rfl ?_
    refine r_ldI_n (m := 1) F_127_13 rfl ?_
    refine r_ldI_n (m := 2) F_127_14 rfl ?_
    refine r_ldI (m := 4) F_127_15 rfl ?_
    refine r_virt2 (A := [vI i, vI r, vI k]) (r := []) (n := 3) F_127_17 o_127 il_5_327 rfl rfl rfl rfl ty_0 vy_128 (lay_le n_128 rfl) ?_
    refine sp_fitsAllR h0 h6 i0 i6 k0 e2 (l3 e2) (l4 e2) (l5 e2) (l6 e2) (l7 e2) ?_
    intro v3 s3 q3
    show Rn _ _ _ _ _ [vI v3] _ _
    refine r_if (t := 30) F_127_20 rfl (l8 e2 v3 s3 q3) ?_ ?_
    · intro e4
      replace e4 : v3 = 0 := e4
      refine r_iinc (m := 4) (e := (k + 1)) (L' := [some (vR 0), some (vI i), some (vI r), some (vI z), some (vI (k + 1))]) F_127_30 rfl rfl rfl rfl ?_
      refine r_goto (t := 5) F_127_33 rfl ?_
      exact (l9 e2 v3 s3 q3 e4)
    · intro e5
      replace e5 : ¬ v3 = 0 := e5
      refine r_ldI_n (m := 3) F_127_23 rfl ?_
      refine r_iconst F_127_24 ?_
      refine r_ldI (m := 4) F_127_25 rfl ?_
      refine r_ishl F_127_27 rfl ?_
      refine r_ior F_127_28 rfl ?_
      refine r_stI_n (m := 3) (L' := [some (vR 0), some (vI i), some (vI r), some (vI (iOr z (iShl 1 k))), some (vI k)]) F_127_29 rfl rfl ?_
      refine r_iinc (m := 4) (e := (k + 1)) (L' := [some (vR 0), some (vI i), some (vI r), some (vI (iOr z (iShl 1 k))), some (vI (k + 1))]) F_127_30 rfl rfl rfl rfl ?_
      refine r_goto (t := 5) F_127_33 rfl ?_
      exact (l10 e2 v3 s3 q3 e5)
theorem t_X5_greatestPart {X : List Int32} {d : Nat} {s : m_St} {P : Option Value → m_St → Prop} {i b c : Int} (i0 : 0 ≤ i) (i6 : i < 6)
    (l1 : Rn X (d + 5) 130 6 [some (vR 0), some (vI i), some (vI b), some (vI c), some (vI 0), some (vI 0), none, none] [] s P)
    : Cl X (d + 5) 130 [vR 0, vI i, vI b, vI c] s P := by
  refine Cl_of n_130 rfl ?_
  show Rn _ _ _ _ [some (vR 0), some (vI i), some (vI b), some (vI c), none, none, none, none] [] _ _
  refine r_iconst F_130_0 ?_
  refine r_stI (m := 4) (L' := [some (vR 0), some (vI i), some (vI b), some (vI c), some (vI 0), none, none, none]) F_130_1 rfl rfl ?_
  refine r_iconst F_130_3 ?_
  refine r_stI (m := 5) (L' := [some (vR 0), some (vI i), some (vI b), some (vI c), some (vI 0), some (vI 0), none, none]) F_130_4 rfl rfl ?_
  exact l1
theorem t_X5_greatestPart_6 {X : List Int32} {d : Nat} {s : m_St} {P : Option Value → m_St → Prop} {i b c z k : Int} {z6 z7 : Option Value} (i0 : 0 ≤ i) (i6 : i < 6)
    (l1 : inR k)
    (l2 : 6 ≤ k → P (some (vI z)) s)
    (l3 : k < 6 → Rn X (d + 5) 130 19 [some (vR 0), some (vI i), some (vI b), some (vI c), some (vI z), some (vI k), some (vI 0), some (vI 0)] [] s P)
    : Rn X (d + 5) 130 6 [some (vR 0), some (vI i), some (vI b), some (vI c), some (vI z), some (vI k), z6, z7] [] s P := by
  refine r_ldI (m := 5) F_130_6 rfl ?_
  refine r_bipush F_130_8 bi_6 ?_
  refine r_icmp (t := 83) F_130_10 rfl l1 (by decide) ?_ ?_
  · intro e1
    replace e1 : 6 ≤ k := e1
    refine r_ldI (m := 4) F_130_83 rfl ?_
    refine r_ireturn F_130_85 rt_130 ?_
    exact (l2 e1)
  · intro e2
    replace e2 : k < 6 := (Int.not_le.mp e2)
    refine r_iconst F_130_13 ?_
    refine r_stI (m := 6) (L' := [some (vR 0), some (vI i), some (vI b), some (vI c), some (vI z), some (vI k), some (vI 0), z7]) F_130_14 rfl rfl ?_
    refine r_iconst F_130_16 ?_
    refine r_stI (m := 7) (L' := [some (vR 0), some (vI i), some (vI b), some (vI c), some (vI z), some (vI k), some (vI 0), some (vI 0)]) F_130_17 rfl rfl ?_
    exact (l3 e2)
theorem t_X5_greatestPart_19 {X : List Int32} {d : Nat} {s : m_St} {P : Option Value → m_St → Prop} {i b c z k n o : Int} (i0 : 0 ≤ i) (i6 : i < 6)
    (l1 : inR o)
    (l2 : 6 ≤ o → inR z)
    (l3 : 6 ≤ o → inR n)
    (l4 : 6 ≤ o → Rn X (d + 5) 130 6 [some (vR 0), some (vI i), some (vI b), some (vI c), some (vI (max z n)), some (vI (k + 1)), some (vI n), some (vI o)] [] s P)
    (l5 : o < 6 → (iAnd (iAnd (iShr b k) (iShr b o)) 1) = 0 → Rn X (d + 5) 130 19 [some (vR 0), some (vI i), some (vI b), some (vI c), some (vI z), some (vI k), some (vI n), some (vI (o + 1))] [] s P)
    (l6 : o < 6 → ¬ (iAnd (iAnd (iShr b k) (iShr b o)) 1) = 0 → 0 ≤ k)
    (l7 : o < 6 → ¬ (iAnd (iAnd (iShr b k) (iShr b o)) 1) = 0 → k < 6)
    (l8 : o < 6 → ¬ (iAnd (iAnd (iShr b k) (iShr b o)) 1) = 0 → gok s (44 + 4 * i))
    (l9 : o < 6 → ¬ (iAnd (iAnd (iShr b k) (iShr b o)) 1) = 0 → 0 ≤ o)
    (l10 : o < 6 → ¬ (iAnd (iAnd (iShr b k) (iShr b o)) 1) = 0 → gok (lk s 74 (44 + 4 * i) k) (44 + 4 * i))
    (l11 : o < 6 → ¬ (iAnd (iAnd (iShr b k) (iShr b o)) 1) = 0 → ¬ (mv k (hset (s (44 + 4 * i + 1)) (hf k)) (s 38 5) c) = (mv o (hset ((lk s 74 (44 + 4 * i) k) (44 + 4 * i + 1)) (hf o)) ((lk s 74 (44 + 4 * i) k) 38 5) c) → Rn X (d + 5) 130 19 [some (vR 0), some (vI i), some (vI b), some (vI c), some (vI z), some (vI k), some (vI n), some (vI (o + 1))] [] (lk (lk s 74 (44 + 4 * i) k) 74 (44 + 4 * i) o) P)
    (l12 : o < 6 → ¬ (iAnd (iAnd (iShr b k) (iShr b o)) 1) = 0 → (mv k (hset (s (44 + 4 * i + 1)) (hf k)) (s 38 5) c) = (mv o (hset ((lk s 74 (44 + 4 * i) k) (44 + 4 * i + 1)) (hf o)) ((lk s 74 (44 + 4 * i) k) 38 5) c) → Rn X (d + 5) 130 19 [some (vR 0), some (vI i), some (vI b), some (vI c), some (vI z), some (vI k), some (vI (n + 1)), some (vI (o + 1))] [] (lk (lk s 74 (44 + 4 * i) k) 74 (44 + 4 * i) o) P)
    : Rn X (d + 5) 130 19 [some (vR 0), some (vI i), some (vI b), some (vI c), some (vI z), some (vI k), some (vI n), some (vI o)] [] s P := by
  refine r_ldI (m := 7) F_130_19 rfl ?_
  refine r_bipush F_130_21 bi_6 ?_
  refine r_icmp (t := 68) F_130_23 rfl l1 (by decide) ?_ ?_
  · intro e1
    replace e1 : 6 ≤ o := e1
    refine r_ldI (m := 4) F_130_68 rfl ?_
    refine r_ldI (m := 6) F_130_70 rfl ?_
    refine r_mmax F_130_72 o_130 iln_5_340 mm_5_340 rfl (l2 e1) (l3 e1) ?_
    refine r_stI (m := 4) (L' := [some (vR 0), some (vI i), some (vI b), some (vI c), some (vI (max z n)), some (vI k), some (vI n), some (vI o)]) F_130_75 rfl rfl ?_
    refine r_iinc (m := 5) (e := (k + 1)) (L' := [some (vR 0), some (vI i), some (vI b), some (vI c), some (vI (max z n)), some (vI (k + 1)), some (vI n), some (vI o)]) F_130_77 rfl rfl rfl rfl ?_
    refine r_goto (t := 6) F_130_80 rfl ?_
    exact (l4 e1)
  · intro e2
    replace e2 : o < 6 := (Int.not_le.mp e2)
    refine r_ldI_n (m := 2) F_130_26 rfl ?_
    refine r_ldI (m := 5) F_130_27 rfl ?_
    refine r_ishr F_130_29 rfl ?_
    refine r_ldI_n (m := 2) F_130_30 rfl ?_
    refine r_ldI (m := 7) F_130_31 rfl ?_
    refine r_ishr F_130_33 rfl ?_
    refine r_iand F_130_34 rfl ?_
    refine r_iconst F_130_35 ?_
    refine r_iand F_130_36 rfl ?_
    refine r_if (t := 62) F_130_37 rfl (inR_iAnd _ _) ?_ ?_
    · intro e3
      replace e3 : (iAnd (iAnd (iShr b k) (iShr b o)) 1) = 0 := e3
      refine r_iinc (m := 7) (e := (o + 1)) (L' := [some (vR 0), some (vI i), some (vI b), some (vI c), some (vI z), some (vI k), some (vI n), some (vI (o + 1))]) F_130_62 rfl rfl rfl rfl ?_
      refine r_goto (t := 19) F_130_65 rfl ?_
      exact (l5 e2 e3)
    · intro e4
      replace e4 : ¬ (iAnd (iAnd (iShr b k) (iShr b o)) 1) = 0 := e4
      refine r_ldR_n (m := 0) F_130_40 rfl ?_
      refine r_ldI_n (m := 1) F_130_41 rfl ?_
      refine r_ldI (m := 5) F_130_42 rfl ?_
      refine r_ldI_n (m := 3) F_130_44 rfl ?_
      refine r_virt2 (A := [vI i, vI k, vI c]) (r := []) (n := 3) F_130_45 o_130 il_5_337 rfl rfl rfl rfl ty_0 vy_131 (lay_le n_131 rfl) ?_
      refine sp_movedAsC i0 i6 (l6 e2 e4) (l7 e2 e4) (l8 e2 e4) ?_
      show Rn _ _ _ _ _ [vI (mv k (hset (s (44 + 4 * i + 1)) (hf k)) (s 38 5) c)] _ _
      refine r_ldR_n (m := 0) F_130_48 rfl ?_
      refine r_ldI_n (m := 1) F_130_49 rfl ?_
      refine r_ldI (m := 7) F_130_50 rfl ?_
      refine r_ldI_n (m := 3) F_130_52 rfl ?_
      refine r_virt2 (A := [vI i, vI o, vI c]) (r := [vI (mv k (hset (s (44 + 4 * i + 1)) (hf k)) (s 38 5) c)]) (n := 3) F_130_53 o_130 il_5_337 rfl rfl rfl rfl ty_0 vy_131 (lay_le n_131 rfl) ?_
      refine sp_movedAsC i0 i6 (l9 e2 e4) e2 (l10 e2 e4) ?_
      show Rn _ _ _ _ _ [vI (mv o (hset ((lk s 74 (44 + 4 * i) k) (44 + 4 * i + 1)) (hf o)) ((lk s 74 (44 + 4 * i) k) 38 5) c), vI (mv k (hset (s (44 + 4 * i + 1)) (hf k)) (s 38 5) c)] _ _
      refine r_icmp (t := 62) F_130_56 rfl (inR_mv _ _ _ _) (inR_mv _ _ _ _) ?_ ?_
      · intro e5
        replace e5 : ¬ (mv k (hset (s (44 + 4 * i + 1)) (hf k)) (s 38 5) c) = (mv o (hset ((lk s 74 (44 + 4 * i) k) (44 + 4 * i + 1)) (hf o)) ((lk s 74 (44 + 4 * i) k) 38 5) c) := e5
        refine r_iinc (m := 7) (e := (o + 1)) (L' := [some (vR 0), some (vI i), some (vI b), some (vI c), some (vI z), some (vI k), some (vI n), some (vI (o + 1))]) F_130_62 rfl rfl rfl rfl ?_
        refine r_goto (t := 19) F_130_65 rfl ?_
        exact (l11 e2 e4 e5)
      · intro e6
        replace e6 : (mv k (hset (s (44 + 4 * i + 1)) (hf k)) (s 38 5) c) = (mv o (hset ((lk s 74 (44 + 4 * i) k) (44 + 4 * i + 1)) (hf o)) ((lk s 74 (44 + 4 * i) k) 38 5) c) := (Classical.not_not.mp e6)
        refine r_iinc (m := 6) (e := (n + 1)) (L' := [some (vR 0), some (vI i), some (vI b), some (vI c), some (vI z), some (vI k), some (vI (n + 1)), some (vI o)]) F_130_59 rfl rfl rfl rfl ?_
        refine r_iinc (m := 7) (e := (o + 1)) (L' := [some (vR 0), some (vI i), some (vI b), some (vI c), some (vI z), some (vI k), some (vI (n + 1)), some (vI (o + 1))]) F_130_62 rfl rfl rfl rfl ?_
        refine r_goto (t := 19) F_130_65 rfl ?_
        exact (l12 e2 e4 e6)
