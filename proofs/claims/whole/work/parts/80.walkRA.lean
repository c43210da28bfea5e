/-! walks: the reference reads signs -/
theorem n_176 : m_n 176 = 2 := by decide +kernel
theorem F_176_0 : F 176 0 (.aload_n 0) 1 := ⟨1, by decide +kernel, rfl, rfl⟩
theorem F_176_1 : F 176 1 (.getfield 93) 4 := ⟨3, by decide +kernel, rfl, rfl⟩
theorem fl_6_93 : m_fl.lookup (6, 93) = some (6, 18, 4163) := by decide +kernel
theorem kd_77_18 : kd 77 18 = 0 := by decide +kernel
theorem o_176 : m_o 176 = 6 := by decide +kernel
theorem F_176_4 : F 176 4 (.aload_n 0) 5 := ⟨1, by decide +kernel, rfl, rfl⟩
theorem F_176_5 : F 176 5 (.getfield 19) 8 := ⟨3, by decide +kernel, rfl, rfl⟩
theorem F_176_8 : F 176 8 (.iload_n 1) 9 := ⟨1, by decide +kernel, rfl, rfl⟩
theorem F_176_9 : F 176 9 (.iaload) 10 := ⟨1, by decide +kernel, rfl, rfl⟩
theorem F_176_10 : F 176 10 (.if_icmp .ge 20) 13 := ⟨3, by decide +kernel, rfl, rfl⟩
theorem F_176_30 : F 176 30 (.sipush (-1000)) 33 := ⟨3, by decide +kernel, rfl, rfl⟩
theorem si__1000 : (Int16.ofInt (-1000)).toInt32 = Int32.ofInt (-1000) := by decide +kernel
theorem F_176_33 : F 176 33 (.ireturn) 34 := ⟨1, by decide +kernel, rfl, rfl⟩
theorem rt_176 : m_r 176 = (some .int) := by decide +kernel
theorem F_176_13 : F 176 13 (.aload_n 0) 14 := ⟨1, by decide +kernel, rfl, rfl⟩
theorem F_176_14 : F 176 14 (.getfield 22) 17 := ⟨3, by decide +kernel, rfl, rfl⟩
theorem F_176_17 : F 176 17 (.bipush 60) 19 := ⟨2, by decide +kernel, rfl, rfl⟩
theorem F_176_19 : F 176 19 (.iload_n 1) 20 := ⟨1, by decide +kernel, rfl, rfl⟩
theorem F_176_20 : F 176 20 (.imul) 21 := ⟨1, by decide +kernel, rfl, rfl⟩
theorem F_176_21 : F 176 21 (.aload_n 0) 22 := ⟨1, by decide +kernel, rfl, rfl⟩
theorem F_176_22 : F 176 22 (.getfield 93) 25 := ⟨3, by decide +kernel, rfl, rfl⟩
theorem F_176_25 : F 176 25 (.iadd) 26 := ⟨1, by decide +kernel, rfl, rfl⟩
theorem F_176_26 : F 176 26 (.iaload) 27 := ⟨1, by decide +kernel, rfl, rfl⟩
theorem F_176_27 : F 176 27 (.goto 6) 30 := ⟨3, by decide +kernel, rfl, rfl⟩
theorem t_X6_look {X : List Int32} {d : Nat} {s : m_St} {P : Option Value → m_St → Prop} {t : Int} (t0 : 0 ≤ t) (t4 : t < 4) (p0 : 0 ≤ (s 77 18))
    (l1 : inR (s 77 18))
    (l2 : inR (s 81 t))
    (l3 : (s 81 t) ≤ (s 77 18) → P (some (vI (-1000))) s)
    (l4 : (s 77 18) < (s 81 t) → 0 ≤ ((60 * t) + (s 77 18)))
    (l5 : (s 77 18) < (s 81 t) → ((60 * t) + (s 77 18)) < 240)
    (l6 : (s 77 18) < (s 81 t) → P (some (vI (s 82 ((60 * t) + (s 77 18))))) s)
    : Cl X d 176 [vR 77, vI t] s P := by
  refine Cl_of n_176 rfl ?_
  show Rn _ _ _ _ [some (vR 77), some (vI t)] [] _ _
  refine r_ldR_n (m := 0) F_176_0 rfl ?_
  refine r_getI (J := 18) (e := (s 77 18)) F_176_1 o_176 fl_6_93 ty_77 (by decide) rfl kd_77_18 rfl ?_
  refine r_ldR_n (m := 0) F_176_4 rfl ?_
  refine r_getR (J := 3) F_176_5 o_176 fl_6_19 ty_77 (by decide) rfl (kd2 kd_77_3 (by decide)) (kd9 kd_77_3 (by decide)) rf_77_3 ?_
  refine r_ldI_n (m := 1) F_176_8 rfl ?_
  refine r_iald (e := (s 81 t)) F_176_9 ty_81 t0 (lt_ln ln_81 t4) rfl ?_
  refine r_icmp (t := 30) F_176_10 rfl l1 l2 ?_ ?_
  · intro e1
    replace e1 : (s 81 t) ≤ (s 77 18) := e1
    refine r_sipush F_176_30 si__1000 ?_
    refine r_ireturn F_176_33 rt_176 ?_
    exact (l3 e1)
  · intro e2
    replace e2 : (s 77 18) < (s 81 t) := (Int.not_le.mp e2)
    refine r_ldR_n (m := 0) F_176_13 rfl ?_
    refine r_getR (J := 4) F_176_14 o_176 fl_6_22 ty_77 (by decide) rfl (kd2 kd_77_4 (by decide)) (kd9 kd_77_4 (by decide)) rf_77_4 ?_
    refine r_bipush F_176_17 bi_60 ?_
    refine r_ldI_n (m := 1) F_176_19 rfl ?_
    refine r_imul F_176_20 rfl ?_
    refine r_ldR_n (m := 0) F_176_21 rfl ?_
    refine r_getI (J := 18) (e := (s 77 18)) F_176_22 o_176 fl_6_93 ty_77 (by decide) rfl kd_77_18 rfl ?_
    refine r_iadd F_176_25 rfl ?_
    refine r_iald (e := (s 82 ((60 * t) + (s 77 18)))) F_176_26 ty_82 (l4 e2) (lt_ln ln_82 (l5 e2)) rfl ?_
    refine r_goto (t := 33) F_176_27 rfl ?_
    refine r_ireturn F_176_33 rt_176 ?_
    exact (l6 e2)
