/-! walks: the law, hearing, putting -/
theorem n_166 : m_n 166 = 7 := by decide +kernel
theorem F_166_0 : F 166 0 (.aload_n 3) 1 := ⟨1, by decide +kernel, rfl, rfl⟩
theorem F_166_1 : F 166 1 (.iload 4) 3 := ⟨2, by decide +kernel, rfl, rfl⟩
theorem F_166_3 : F 166 3 (.iload 5) 5 := ⟨2, by decide +kernel, rfl, rfl⟩
theorem F_166_5 : F 166 5 (.iadd) 6 := ⟨1, by decide +kernel, rfl, rfl⟩
theorem F_166_6 : F 166 6 (.iaload) 7 := ⟨1, by decide +kernel, rfl, rfl⟩
theorem F_166_7 : F 166 7 (.iload_n 0) 8 := ⟨1, by decide +kernel, rfl, rfl⟩
theorem F_166_8 : F 166 8 (.aload_n 1) 9 := ⟨1, by decide +kernel, rfl, rfl⟩
theorem F_166_9 : F 166 9 (.iload_n 2) 10 := ⟨1, by decide +kernel, rfl, rfl⟩
theorem F_166_10 : F 166 10 (.aload_n 3) 11 := ⟨1, by decide +kernel, rfl, rfl⟩
theorem F_166_11 : F 166 11 (.iload 4) 13 := ⟨2, by decide +kernel, rfl, rfl⟩
theorem F_166_13 : F 166 13 (.iload 5) 15 := ⟨2, by decide +kernel, rfl, rfl⟩
theorem F_166_15 : F 166 15 (.invokestatic 49) 18 := ⟨3, by decide +kernel, rfl, rfl⟩
theorem o_166 : m_o 166 = 6 := by decide +kernel
theorem il_6_49 : ilq 6 49 1 167 6 = true := by decide +kernel
theorem F_166_18 : F 166 18 (.iadd) 19 := ⟨1, by decide +kernel, rfl, rfl⟩
theorem F_166_19 : F 166 19 (.istore 6) 21 := ⟨2, by decide +kernel, rfl, rfl⟩
theorem F_166_21 : F 166 21 (.aload_n 3) 22 := ⟨1, by decide +kernel, rfl, rfl⟩
theorem F_166_22 : F 166 22 (.iload 4) 24 := ⟨2, by decide +kernel, rfl, rfl⟩
theorem F_166_24 : F 166 24 (.iload 5) 26 := ⟨2, by decide +kernel, rfl, rfl⟩
theorem F_166_26 : F 166 26 (.iadd) 27 := ⟨1, by decide +kernel, rfl, rfl⟩
theorem F_166_27 : F 166 27 (.iload 6) 29 := ⟨2, by decide +kernel, rfl, rfl⟩
theorem F_166_29 : F 166 29 (.ifCond .ge 7) 32 := ⟨3, by decide +kernel, rfl, rfl⟩
theorem F_166_36 : F 166 36 (.iload 6) 38 := ⟨2, by decide +kernel, rfl, rfl⟩
theorem F_166_38 : F 166 38 (.bipush 20) 40 := ⟨2, by decide +kernel, rfl, rfl⟩
theorem F_166_40 : F 166 40 (.if_icmp .le 8) 43 := ⟨3, by decide +kernel, rfl, rfl⟩
theorem F_166_48 : F 166 48 (.iload 6) 50 := ⟨2, by decide +kernel, rfl, rfl⟩
theorem F_166_50 : F 166 50 (.iastore) 51 := ⟨1, by decide +kernel, rfl, rfl⟩
theorem F_166_51 : F 166 51 (.return_) 52 := ⟨1, by decide +kernel, rfl, rfl⟩
theorem rt_166 : m_r 166 = none := by decide +kernel
theorem F_166_43 : F 166 43 (.bipush 20) 45 := ⟨2, by decide +kernel, rfl, rfl⟩
theorem F_166_45 : F 166 45 (.goto 5) 48 := ⟨3, by decide +kernel, rfl, rfl⟩
theorem F_166_32 : F 166 32 (.iconst 0) 33 := ⟨1, by decide +kernel, rfl, rfl⟩
theorem F_166_33 : F 166 33 (.goto 17) 36 := ⟨3, by decide +kernel, rfl, rfl⟩
theorem n_161 : m_n 161 = 3 := by decide +kernel
theorem F_161_0 : F 161 0 (.aload_n 0) 1 := ⟨1, by decide +kernel, rfl, rfl⟩
theorem F_161_1 : F 161 1 (.iconst 0) 2 := ⟨1, by decide +kernel, rfl, rfl⟩
theorem F_161_2 : F 161 2 (.iload_n 1) 3 := ⟨1, by decide +kernel, rfl, rfl⟩
theorem F_161_3 : F 161 3 (.iload_n 2) 4 := ⟨1, by decide +kernel, rfl, rfl⟩
theorem F_161_4 : F 161 4 (.invokevirtual 9) 7 := ⟨3, by decide +kernel, rfl, rfl⟩
theorem o_161 : m_o 161 = 6 := by decide +kernel
theorem il_6_9 : ilq 6 9 0 29 3 = true := by decide +kernel
theorem vy_29 : (m_cls 5).1 = (m_y 29).cls ∧ 5 < m_cl.length := by decide +kernel
theorem F_161_7 : F 161 7 (.sipush 1032) 10 := ⟨3, by decide +kernel, rfl, rfl⟩
theorem si_1032 : (Int16.ofInt 1032).toInt32 = Int32.ofInt 1032 := by decide +kernel
theorem F_161_10 : F 161 10 (.if_icmp .ne 9) 13 := ⟨3, by decide +kernel, rfl, rfl⟩
theorem F_161_13 : F 161 13 (.iload_n 1) 14 := ⟨1, by decide +kernel, rfl, rfl⟩
theorem F_161_14 : F 161 14 (.iconst 1) 15 := ⟨1, by decide +kernel, rfl, rfl⟩
theorem F_161_15 : F 161 15 (.iadd) 16 := ⟨1, by decide +kernel, rfl, rfl⟩
theorem F_161_16 : F 161 16 (.goto 4) 19 := ⟨3, by decide +kernel, rfl, rfl⟩
theorem F_161_20 : F 161 20 (.ireturn) 21 := ⟨1, by decide +kernel, rfl, rfl⟩
theorem rt_161 : m_r 161 = (some .int) := by decide +kernel
theorem t_L_hears {X : m_X} {d : Nat} {s : m_St} {P : Option Value → m_St → Prop} {m k p c : Int} (hU : 2 ≤ X.2)
    (l1 : 0 ≤ (p + c))
    (l2 : (p + c) < 30)
    (l3 : trL (s 38 5) (s 77) (Int.toNat m))
    (l4 : 0 ≤ m)
    (l5 : m ≤ 5)
    (l6 : ∀ j, 0 ≤ j → j < 2 * m → inR (s 77 j))
    (l7 : 0 ≤ k)
    (l8 : k < 6)
    (l9 : 0 ≤ p)
    (l10 : p + 3 < 30)
    (l11 : wr (fun c => s 78 (p + c)))
    (l12 : 0 ≤ c)
    (l13 : c < 4)
    (l14 : inR ((s 78 (p + c)) + (mv k (hset (fun c => s 78 (p + c)) (hf k)) (s 38 5) c)))
    (l15 : 0 ≤ ((s 78 (p + c)) + (mv k (hset (fun c => s 78 (p + c)) (hf k)) (s 38 5) c)) → ((s 78 (p + c)) + (mv k (hset (fun c => s 78 (p + c)) (hf k)) (s 38 5) c)) ≤ 20 → P none (m_upd s 78 (p + c) ((s 78 (p + c)) + (mv k (hset (fun c => s 78 (p + c)) (hf k)) (s 38 5) c))))
    (l16 : 0 ≤ ((s 78 (p + c)) + (mv k (hset (fun c => s 78 (p + c)) (hf k)) (s 38 5) c)) → 20 < ((s 78 (p + c)) + (mv k (hset (fun c => s 78 (p + c)) (hf k)) (s 38 5) c)) → P none (m_upd s 78 (p + c) 20))
    (l17 : ((s 78 (p + c)) + (mv k (hset (fun c => s 78 (p + c)) (hf k)) (s 38 5) c)) < 0 → P none (m_upd s 78 (p + c) 0))
    : Cl X (d + 2) 166 [vI m, vR 77, vI k, vR 78, vI p, vI c] s P := by
  refine Cl_of n_166 rfl ?_
  show Rn _ _ _ _ [some (vI m), some (vR 77), some (vI k), some (vR 78), some (vI p), some (vI c), none] [] _ _
  refine r_ldR_n (m := 3) F_166_0 rfl ?_
  refine r_ldI (m := 4) F_166_1 rfl ?_
  refine r_ldI (m := 5) F_166_3 rfl ?_
  refine r_iadd F_166_5 rfl ?_
  refine r_ialdU (c := 1) (len := 30) (e := (s 78 (p + c))) F_166_6 rfl rfl (Nat.lt_of_lt_of_le (by decide) hU) (by decide) (by decide) l1 l2 rfl ?_
  refine r_ldI_n (m := 0) F_166_7 rfl ?_
  refine r_ldR_n (m := 1) F_166_8 rfl ?_
  refine r_ldI_n (m := 2) F_166_9 rfl ?_
  refine r_ldR_n (m := 3) F_166_10 rfl ?_
  refine r_ldI (m := 4) F_166_11 rfl ?_
  refine r_ldI (m := 5) F_166_13 rfl ?_
  refine r_stat2 (A := [vI m, vR 77, vI k, vR 78, vI p, vI c]) (r := [vI (s 78 (p + c))]) (n := 6) F_166_15 o_166 il_6_49 (by decide) rfl rfl rfl rfl (lay_le n_167 rfl) ?_
  refine sp_movedL hU l3 l4 l5 l6 l7 l8 l9 l10 l11 l12 l13 ?_
  show Rn _ _ _ _ _ [vI (mv k (hset (fun c => s 78 (p + c)) (hf k)) (s 38 5) c), vI (s 78 (p + c))] _ _
  refine r_iadd F_166_18 rfl ?_
  refine r_stI (m := 6) (L' := [some (vI m), some (vR 77), some (vI k), some (vR 78), some (vI p), some (vI c), some (vI ((s 78 (p + c)) + (mv k (hset (fun c => s 78 (p + c)) (hf k)) (s 38 5) c)))]) F_166_19 rfl rfl ?_
  refine r_ldR_n (m := 3) F_166_21 rfl ?_
  refine r_ldI (m := 4) F_166_22 rfl ?_
  refine r_ldI (m := 5) F_166_24 rfl ?_
  refine r_iadd F_166_26 rfl ?_
  refine r_ldI (m := 6) F_166_27 rfl ?_
  refine r_if (t := 36) F_166_29 rfl l14 ?_ ?_
  · intro e1
    replace e1 : 0 ≤ ((s 78 (p + c)) + (mv k (hset (fun c => s 78 (p + c)) (hf k)) (s 38 5) c)) := e1
    refine r_ldI (m := 6) F_166_36 rfl ?_
    refine r_bipush F_166_38 bi_20 ?_
    refine r_icmp (t := 48) F_166_40 rfl l14 (by decide) ?_ ?_
    · intro e2
      replace e2 : ((s 78 (p + c)) + (mv k (hset (fun c => s 78 (p + c)) (hf k)) (s 38 5) c)) ≤ 20 := e2
      refine r_ldI (m := 6) F_166_48 rfl ?_
      refine r_iastU (c := 1) (len := 30) F_166_50 rfl rfl (Nat.lt_of_lt_of_le (by decide) hU) (by decide) (by decide) l1 l2 ?_
      refine r_return F_166_51 rt_166 ?_
      exact (l15 e1 e2)
    · intro e3
      replace e3 : 20 < ((s 78 (p + c)) + (mv k (hset (fun c => s 78 (p + c)) (hf k)) (s 38 5) c)) := (Int.not_le.mp e3)
      refine r_bipush F_166_43 bi_20 ?_
      refine r_goto (t := 50) F_166_45 rfl ?_
      refine r_iastU (c := 1) (len := 30) F_166_50 rfl rfl (Nat.lt_of_lt_of_le (by decide) hU) (by decide) (by decide) l1 l2 ?_
      refine r_return F_166_51 rt_166 ?_
      exact (l16 e1 e3)
  · intro e4
    replace e4 : ((s 78 (p + c)) + (mv k (hset (fun c => s 78 (p + c)) (hf k)) (s 38 5) c)) < 0 := (Int.not_le.mp e4)
    refine r_iconst F_166_32 ?_
    refine r_goto (t := 50) F_166_33 rfl ?_
    refine r_iastU (c := 1) (len := 30) F_166_50 rfl rfl (Nat.lt_of_lt_of_le (by decide) hU) (by decide) (by decide) l1 l2 ?_
    refine r_return F_166_51 rt_166 ?_
    exact (l17 e4)
theorem t_L_put {X : m_X} {d : Nat} {s : m_St} {P : Option Value → m_St → Prop} {a c : Int}
    (l1 : s 11 0 = 60)
    (l2 : 0 ≤ a)
    (l3 : a < 60)
    (l4 : s 13 a = 32)
    (l5 : P (some (vI (a + 1))) (m_upd s 13 a (i2B c)))
    : Cl X (d + 6) 161 [vR 0, vI a, vI c] s P := by
  refine Cl_of n_161 rfl ?_
  show Rn _ _ _ _ [some (vR 0), some (vI a), some (vI c)] [] _ _
  refine r_ldR_n (m := 0) F_161_0 rfl ?_
  refine r_iconst F_161_1 ?_
  refine r_ldI_n (m := 1) F_161_2 rfl ?_
  refine r_ldI_n (m := 2) F_161_3 rfl ?_
  refine r_virt2 (A := [vI 0, vI a, vI c]) (r := []) (n := 3) F_161_4 o_161 il_6_9 rfl rfl rfl rfl ty_0 vy_29 (lay_le n_29 rfl) ?_
  refine sp_put0 l1 l2 l3 l4 ?_
  show Rn _ _ _ _ _ [vI 1032] _ _
  refine r_sipush F_161_7 si_1032 ?_
  refine r_icmpF (t := 19) F_161_10 rfl (by decide) (by decide) (by show ¬ (¬ (1032 : Int) = 1032); decide) ?_
  refine r_ldI_n (m := 1) F_161_13 rfl ?_
  refine r_iconst F_161_14 ?_
  refine r_iadd F_161_15 rfl ?_
  refine r_goto (t := 20) F_161_16 rfl ?_
  refine r_ireturn F_161_20 rt_161 ?_
  exact l5
