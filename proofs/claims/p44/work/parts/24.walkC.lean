/-! walks: guests -/
theorem n_42 : m_n 42 = 2 := by decide +kernel
theorem F_42_0 : F 42 0 (.iload_n 1) 1 := ⟨1, by decide +kernel, rfl, rfl⟩
theorem F_42_1 : F 42 1 (.ifCond .lt 26) 4 := ⟨3, by decide +kernel, rfl, rfl⟩
theorem F_42_27 : F 42 27 (.return_) 28 := ⟨1, by decide +kernel, rfl, rfl⟩
theorem rt_42 : m_r 42 = none := by decide +kernel
theorem F_42_4 : F 42 4 (.iload_n 1) 5 := ⟨1, by decide +kernel, rfl, rfl⟩
theorem F_42_5 : F 42 5 (.bipush 6) 7 := ⟨2, by decide +kernel, rfl, rfl⟩
theorem F_42_7 : F 42 7 (.if_icmp .ge 20) 10 := ⟨3, by decide +kernel, rfl, rfl⟩
theorem F_42_10 : F 42 10 (.aload_n 0) 11 := ⟨1, by decide +kernel, rfl, rfl⟩
theorem F_42_11 : F 42 11 (.iload_n 1) 12 := ⟨1, by decide +kernel, rfl, rfl⟩
theorem F_42_12 : F 42 12 (.putfield 15) 15 := ⟨3, by decide +kernel, rfl, rfl⟩
theorem fl_0_15 : m_fl.lookup (0, 15) = some (0, 1, 1053) := by decide +kernel
theorem pf_0_1 : pfT 0 1 .int = true := by decide +kernel
theorem o_42 : m_o 42 = 0 := by decide +kernel
theorem F_42_15 : F 42 15 (.aload_n 0) 16 := ⟨1, by decide +kernel, rfl, rfl⟩
theorem F_42_16 : F 42 16 (.aload_n 0) 17 := ⟨1, by decide +kernel, rfl, rfl⟩
theorem F_42_17 : F 42 17 (.aload_n 0) 18 := ⟨1, by decide +kernel, rfl, rfl⟩
theorem F_42_18 : F 42 18 (.getfield 15) 21 := ⟨3, by decide +kernel, rfl, rfl⟩
theorem F_42_21 : F 42 21 (.invokevirtual 22) 24 := ⟨3, by decide +kernel, rfl, rfl⟩
theorem il_0_22 : ilq 0 22 0 43 1 = true := by decide +kernel
theorem vy_43 : (m_cls 0).1 = (m_y 43).cls ∧ 0 < m_cl.length := by decide +kernel
theorem F_42_24 : F 42 24 (.putfield 19) 27 := ⟨3, by decide +kernel, rfl, rfl⟩
theorem fl_0_19 : m_fl.lookup (0, 19) = some (0, 2, 1054) := by decide +kernel
theorem pf_0_2 : pfT 0 2 .int = true := by decide +kernel
theorem n_53 : m_n 53 = 4 := by decide +kernel
theorem F_53_0 : F 53 0 (.iconst 0) 1 := ⟨1, by decide +kernel, rfl, rfl⟩
theorem F_53_1 : F 53 1 (.istore_n 3) 2 := ⟨1, by decide +kernel, rfl, rfl⟩
theorem F_53_2 : F 53 2 (.iload_n 3) 3 := ⟨1, by decide +kernel, rfl, rfl⟩
theorem F_53_3 : F 53 3 (.iconst 4) 4 := ⟨1, by decide +kernel, rfl, rfl⟩
theorem F_53_4 : F 53 4 (.if_icmp .ge 20) 7 := ⟨3, by decide +kernel, rfl, rfl⟩
theorem F_53_7 : F 53 7 (.aload_n 0) 8 := ⟨1, by decide +kernel, rfl, rfl⟩
theorem F_53_8 : F 53 8 (.getfield 9) 11 := ⟨3, by decide +kernel, rfl, rfl⟩
theorem o_53 : m_o 53 = 0 := by decide +kernel
theorem F_53_11 : F 53 11 (.iload_n 3) 12 := ⟨1, by decide +kernel, rfl, rfl⟩
theorem F_53_12 : F 53 12 (.aload_n 1) 13 := ⟨1, by decide +kernel, rfl, rfl⟩
theorem F_53_13 : F 53 13 (.iload_n 3) 14 := ⟨1, by decide +kernel, rfl, rfl⟩
theorem F_53_14 : F 53 14 (.invokevirtual 26) 17 := ⟨3, by decide +kernel, rfl, rfl⟩
theorem il_0_26 : ilq 0 26 0 54 1 = true := by decide +kernel
theorem vy_54 : (m_cls 0).1 = (m_y 54).cls ∧ 0 < m_cl.length := by decide +kernel
theorem n_54 : m_n 54 = 2 := by decide +kernel
theorem F_54_0 : F 54 0 (.iload_n 1) 1 := ⟨1, by decide +kernel, rfl, rfl⟩
theorem F_54_1 : F 54 1 (.invokestatic 33) 4 := ⟨3, by decide +kernel, rfl, rfl⟩
theorem o_54 : m_o 54 = 0 := by decide +kernel
theorem il_0_33 : ilq 0 33 3 46 1 = true := by decide +kernel
theorem n_46 : m_n 46 = 1 := by decide +kernel
theorem F_46_0 : F 46 0 (.iload_n 0) 1 := ⟨1, by decide +kernel, rfl, rfl⟩
theorem F_46_1 : F 46 1 (.ifCond .lt 12) 4 := ⟨3, by decide +kernel, rfl, rfl⟩
theorem F_46_4 : F 46 4 (.iload_n 0) 5 := ⟨1, by decide +kernel, rfl, rfl⟩
theorem F_46_5 : F 46 5 (.iconst 4) 6 := ⟨1, by decide +kernel, rfl, rfl⟩
theorem F_46_6 : F 46 6 (.if_icmp .ge 7) 9 := ⟨3, by decide +kernel, rfl, rfl⟩
theorem F_46_9 : F 46 9 (.iconst 1) 10 := ⟨1, by decide +kernel, rfl, rfl⟩
theorem F_46_10 : F 46 10 (.goto 4) 13 := ⟨3, by decide +kernel, rfl, rfl⟩
theorem F_46_14 : F 46 14 (.ireturn) 15 := ⟨1, by decide +kernel, rfl, rfl⟩
theorem rt_46 : m_r 46 = (some .boolean) := by decide +kernel
theorem F_54_4 : F 54 4 (.ifCond .eq 12) 7 := ⟨3, by decide +kernel, rfl, rfl⟩
theorem F_54_7 : F 54 7 (.aload_n 0) 8 := ⟨1, by decide +kernel, rfl, rfl⟩
theorem F_54_8 : F 54 8 (.getfield 9) 11 := ⟨3, by decide +kernel, rfl, rfl⟩
theorem F_54_11 : F 54 11 (.iload_n 1) 12 := ⟨1, by decide +kernel, rfl, rfl⟩
theorem F_54_12 : F 54 12 (.iaload) 13 := ⟨1, by decide +kernel, rfl, rfl⟩
theorem F_54_13 : F 54 13 (.goto 4) 16 := ⟨3, by decide +kernel, rfl, rfl⟩
theorem F_54_17 : F 54 17 (.ireturn) 18 := ⟨1, by decide +kernel, rfl, rfl⟩
theorem rt_54 : m_r 54 = (some .int) := by decide +kernel
theorem F_53_17 : F 53 17 (.iastore) 18 := ⟨1, by decide +kernel, rfl, rfl⟩
theorem F_53_18 : F 53 18 (.iinc 3 1) 21 := ⟨3, by decide +kernel, rfl, rfl⟩
theorem F_53_21 : F 53 21 (.goto (-19)) 24 := ⟨3, by decide +kernel, rfl, rfl⟩
theorem F_53_24 : F 53 24 (.aload_n 0) 25 := ⟨1, by decide +kernel, rfl, rfl⟩
theorem F_53_25 : F 53 25 (.iload_n 2) 26 := ⟨1, by decide +kernel, rfl, rfl⟩
theorem F_53_26 : F 53 26 (.invokevirtual 29) 29 := ⟨3, by decide +kernel, rfl, rfl⟩
theorem il_0_29 : ilq 0 29 0 42 1 = true := by decide +kernel
theorem vy_42 : (m_cls 0).1 = (m_y 42).cls ∧ 0 < m_cl.length := by decide +kernel
theorem F_53_29 : F 53 29 (.return_) 30 := ⟨1, by decide +kernel, rfl, rfl⟩
theorem rt_53 : m_r 53 = none := by decide +kernel
theorem n_45 : m_n 45 = 3 := by decide +kernel
theorem F_45_0 : F 45 0 (.iload_n 1) 1 := ⟨1, by decide +kernel, rfl, rfl⟩
theorem F_45_1 : F 45 1 (.invokestatic 33) 4 := ⟨3, by decide +kernel, rfl, rfl⟩
theorem o_45 : m_o 45 = 0 := by decide +kernel
theorem F_46_13 : F 46 13 (.iconst 0) 14 := ⟨1, by decide +kernel, rfl, rfl⟩
theorem F_45_4 : F 45 4 (.ifCond .ne 4) 7 := ⟨3, by decide +kernel, rfl, rfl⟩
theorem F_45_7 : F 45 7 (.return_) 8 := ⟨1, by decide +kernel, rfl, rfl⟩
theorem rt_45 : m_r 45 = none := by decide +kernel
theorem F_45_8 : F 45 8 (.aload_n 0) 9 := ⟨1, by decide +kernel, rfl, rfl⟩
theorem F_45_9 : F 45 9 (.getfield 9) 12 := ⟨3, by decide +kernel, rfl, rfl⟩
theorem F_45_12 : F 45 12 (.iload_n 1) 13 := ⟨1, by decide +kernel, rfl, rfl⟩
theorem F_45_13 : F 45 13 (.iconst 0) 14 := ⟨1, by decide +kernel, rfl, rfl⟩
theorem F_45_14 : F 45 14 (.bipush 20) 16 := ⟨2, by decide +kernel, rfl, rfl⟩
theorem bi_20 : (Int8.ofInt 20).toInt32 = Int32.ofInt 20 := by decide +kernel
theorem F_45_16 : F 45 16 (.iload_n 2) 17 := ⟨1, by decide +kernel, rfl, rfl⟩
theorem F_45_17 : F 45 17 (.invokestatic 37) 20 := ⟨3, by decide +kernel, rfl, rfl⟩
theorem mm_0_37 : m_mm.lookup (0, 37) = some (1, 2046) := by decide +kernel
theorem iln_0_37 : m_il.lookup (0, 37) = none := by decide +kernel
theorem F_45_20 : F 45 20 (.invokestatic 43) 23 := ⟨3, by decide +kernel, rfl, rfl⟩
theorem mm_0_43 : m_mm.lookup (0, 43) = some (0, 2049) := by decide +kernel
theorem iln_0_43 : m_il.lookup (0, 43) = none := by decide +kernel
theorem F_45_23 : F 45 23 (.iastore) 24 := ⟨1, by decide +kernel, rfl, rfl⟩
theorem F_45_24 : F 45 24 (.aload_n 0) 25 := ⟨1, by decide +kernel, rfl, rfl⟩
theorem F_45_25 : F 45 25 (.getfield 9) 28 := ⟨3, by decide +kernel, rfl, rfl⟩
theorem F_45_28 : F 45 28 (.iload_n 1) 29 := ⟨1, by decide +kernel, rfl, rfl⟩
theorem F_45_29 : F 45 29 (.iaload) 30 := ⟨1, by decide +kernel, rfl, rfl⟩
theorem F_45_30 : F 45 30 (.aload_n 0) 31 := ⟨1, by decide +kernel, rfl, rfl⟩
theorem F_45_31 : F 45 31 (.getfield 15) 34 := ⟨3, by decide +kernel, rfl, rfl⟩
theorem F_45_34 : F 45 34 (.invokestatic 46) 37 := ⟨3, by decide +kernel, rfl, rfl⟩
theorem F_45_37 : F 45 37 (.if_icmp .lt 18) 40 := ⟨3, by decide +kernel, rfl, rfl⟩
theorem F_45_55 : F 45 55 (.aload_n 0) 56 := ⟨1, by decide +kernel, rfl, rfl⟩
theorem F_45_56 : F 45 56 (.dup) 57 := ⟨1, by decide +kernel, rfl, rfl⟩
theorem F_45_57 : F 45 57 (.getfield 19) 60 := ⟨3, by decide +kernel, rfl, rfl⟩
theorem F_45_60 : F 45 60 (.iconst 1) 61 := ⟨1, by decide +kernel, rfl, rfl⟩
theorem F_45_61 : F 45 61 (.iload_n 1) 62 := ⟨1, by decide +kernel, rfl, rfl⟩
theorem F_45_62 : F 45 62 (.ishl) 63 := ⟨1, by decide +kernel, rfl, rfl⟩
theorem F_45_63 : F 45 63 (.iconst (-1)) 64 := ⟨1, by decide +kernel, rfl, rfl⟩
theorem F_45_64 : F 45 64 (.ixor) 65 := ⟨1, by decide +kernel, rfl, rfl⟩
theorem F_45_65 : F 45 65 (.iand) 66 := ⟨1, by decide +kernel, rfl, rfl⟩
theorem F_45_66 : F 45 66 (.putfield 19) 69 := ⟨3, by decide +kernel, rfl, rfl⟩
theorem F_45_69 : F 45 69 (.return_) 70 := ⟨1, by decide +kernel, rfl, rfl⟩
theorem F_45_40 : F 45 40 (.aload_n 0) 41 := ⟨1, by decide +kernel, rfl, rfl⟩
theorem F_45_41 : F 45 41 (.dup) 42 := ⟨1, by decide +kernel, rfl, rfl⟩
theorem F_45_42 : F 45 42 (.getfield 19) 45 := ⟨3, by decide +kernel, rfl, rfl⟩
theorem F_45_45 : F 45 45 (.iconst 1) 46 := ⟨1, by decide +kernel, rfl, rfl⟩
theorem F_45_46 : F 45 46 (.iload_n 1) 47 := ⟨1, by decide +kernel, rfl, rfl⟩
theorem F_45_47 : F 45 47 (.ishl) 48 := ⟨1, by decide +kernel, rfl, rfl⟩
theorem F_45_48 : F 45 48 (.ior) 49 := ⟨1, by decide +kernel, rfl, rfl⟩
theorem F_45_49 : F 45 49 (.putfield 19) 52 := ⟨3, by decide +kernel, rfl, rfl⟩
theorem F_45_52 : F 45 52 (.goto 17) 55 := ⟨3, by decide +kernel, rfl, rfl⟩
theorem n_60 : m_n 60 = 4 := by decide +kernel
theorem F_60_0 : F 60 0 (.iload_n 2) 1 := ⟨1, by decide +kernel, rfl, rfl⟩
theorem F_60_1 : F 60 1 (.iconst 4) 2 := ⟨1, by decide +kernel, rfl, rfl⟩
theorem F_60_2 : F 60 2 (.iload_n 1) 3 := ⟨1, by decide +kernel, rfl, rfl⟩
theorem F_60_3 : F 60 3 (.imul) 4 := ⟨1, by decide +kernel, rfl, rfl⟩
theorem F_60_4 : F 60 4 (.ishr) 5 := ⟨1, by decide +kernel, rfl, rfl⟩
theorem F_60_5 : F 60 5 (.aload_n 0) 6 := ⟨1, by decide +kernel, rfl, rfl⟩
theorem F_60_6 : F 60 6 (.getfield 19) 9 := ⟨3, by decide +kernel, rfl, rfl⟩
theorem o_60 : m_o 60 = 0 := by decide +kernel
theorem F_60_9 : F 60 9 (.iand) 10 := ⟨1, by decide +kernel, rfl, rfl⟩
theorem F_60_10 : F 60 10 (.ifCond .eq 7) 13 := ⟨3, by decide +kernel, rfl, rfl⟩
theorem F_60_17 : F 60 17 (.iconst 1) 18 := ⟨1, by decide +kernel, rfl, rfl⟩
theorem F_60_18 : F 60 18 (.istore_n 3) 19 := ⟨1, by decide +kernel, rfl, rfl⟩
theorem F_60_19 : F 60 19 (.aload_n 0) 20 := ⟨1, by decide +kernel, rfl, rfl⟩
theorem F_60_20 : F 60 20 (.getfield 15) 23 := ⟨3, by decide +kernel, rfl, rfl⟩
theorem F_60_23 : F 60 23 (.invokestatic 49) 26 := ⟨3, by decide +kernel, rfl, rfl⟩
theorem il_0_49 : ilq 0 49 1 61 1 = true := by decide +kernel
theorem F_60_26 : F 60 26 (.tableswitch 55 1 3 #[26, 37, 41]) 52 := ⟨26, by decide +kernel, rfl, rfl⟩
theorem F_60_52 : F 60 52 (.iload_n 3) 53 := ⟨1, by decide +kernel, rfl, rfl⟩
theorem F_60_53 : F 60 53 (.iconst 1) 54 := ⟨1, by decide +kernel, rfl, rfl⟩
theorem F_60_54 : F 60 54 (.if_icmp .ne 7) 57 := ⟨3, by decide +kernel, rfl, rfl⟩
theorem F_60_57 : F 60 57 (.iconst 0) 58 := ⟨1, by decide +kernel, rfl, rfl⟩
theorem F_60_58 : F 60 58 (.goto 4) 61 := ⟨3, by decide +kernel, rfl, rfl⟩
theorem F_60_62 : F 60 62 (.ireturn) 63 := ⟨1, by decide +kernel, rfl, rfl⟩
theorem rt_60 : m_r 60 = (some .int) := by decide +kernel
theorem F_60_63 : F 60 63 (.iload_n 3) 64 := ⟨1, by decide +kernel, rfl, rfl⟩
theorem F_60_64 : F 60 64 (.iconst 1) 65 := ⟨1, by decide +kernel, rfl, rfl⟩
theorem F_60_65 : F 60 65 (.iadd) 66 := ⟨1, by decide +kernel, rfl, rfl⟩
theorem F_60_66 : F 60 66 (.ireturn) 67 := ⟨1, by decide +kernel, rfl, rfl⟩
theorem F_60_67 : F 60 67 (.aload_n 0) 68 := ⟨1, by decide +kernel, rfl, rfl⟩
theorem F_60_68 : F 60 68 (.iload_n 1) 69 := ⟨1, by decide +kernel, rfl, rfl⟩
theorem F_60_69 : F 60 69 (.invokevirtual 52) 72 := ⟨3, by decide +kernel, rfl, rfl⟩
theorem il_0_52 : ilq 0 52 0 62 1 = true := by decide +kernel
theorem vy_62 : (m_cls 0).1 = (m_y 62).cls ∧ 0 < m_cl.length := by decide +kernel
theorem n_62 : m_n 62 = 2 := by decide +kernel
theorem F_62_0 : F 62 0 (.aload_n 0) 1 := ⟨1, by decide +kernel, rfl, rfl⟩
theorem F_62_1 : F 62 1 (.getfield 19) 4 := ⟨3, by decide +kernel, rfl, rfl⟩
theorem o_62 : m_o 62 = 0 := by decide +kernel
theorem F_62_4 : F 62 4 (.iload_n 1) 5 := ⟨1, by decide +kernel, rfl, rfl⟩
theorem F_62_5 : F 62 5 (.ishr) 6 := ⟨1, by decide +kernel, rfl, rfl⟩
theorem F_62_6 : F 62 6 (.iconst 1) 7 := ⟨1, by decide +kernel, rfl, rfl⟩
theorem F_62_7 : F 62 7 (.iand) 8 := ⟨1, by decide +kernel, rfl, rfl⟩
theorem F_62_8 : F 62 8 (.ifCond .eq 7) 11 := ⟨3, by decide +kernel, rfl, rfl⟩
theorem F_62_15 : F 62 15 (.iconst 0) 16 := ⟨1, by decide +kernel, rfl, rfl⟩
theorem F_62_16 : F 62 16 (.ireturn) 17 := ⟨1, by decide +kernel, rfl, rfl⟩
theorem rt_62 : m_r 62 = (some .boolean) := by decide +kernel
theorem F_60_72 : F 60 72 (.ifCond .eq 7) 75 := ⟨3, by decide +kernel, rfl, rfl⟩
theorem F_60_79 : F 60 79 (.iconst (-1)) 80 := ⟨1, by decide +kernel, rfl, rfl⟩
theorem F_60_80 : F 60 80 (.ireturn) 81 := ⟨1, by decide +kernel, rfl, rfl⟩
theorem F_62_11 : F 62 11 (.iconst 1) 12 := ⟨1, by decide +kernel, rfl, rfl⟩
theorem F_62_12 : F 62 12 (.goto 4) 15 := ⟨3, by decide +kernel, rfl, rfl⟩
theorem F_60_75 : F 60 75 (.iload_n 3) 76 := ⟨1, by decide +kernel, rfl, rfl⟩
theorem F_60_76 : F 60 76 (.goto 4) 79 := ⟨3, by decide +kernel, rfl, rfl⟩
theorem F_60_81 : F 60 81 (.iload_n 3) 82 := ⟨1, by decide +kernel, rfl, rfl⟩
theorem F_60_82 : F 60 82 (.ireturn) 83 := ⟨1, by decide +kernel, rfl, rfl⟩
theorem F_60_13 : F 60 13 (.iconst 2) 14 := ⟨1, by decide +kernel, rfl, rfl⟩
theorem F_60_14 : F 60 14 (.goto 4) 17 := ⟨3, by decide +kernel, rfl, rfl⟩
theorem F_60_61 : F 60 61 (.iload_n 3) 62 := ⟨1, by decide +kernel, rfl, rfl⟩
theorem n_70 : m_n 70 = 2 := by decide +kernel
theorem F_70_0 : F 70 0 (.aload_n 0) 1 := ⟨1, by decide +kernel, rfl, rfl⟩
theorem F_70_1 : F 70 1 (.getfield 15) 4 := ⟨3, by decide +kernel, rfl, rfl⟩
theorem o_70 : m_o 70 = 0 := by decide +kernel
theorem F_70_4 : F 70 4 (.iload_n 1) 5 := ⟨1, by decide +kernel, rfl, rfl⟩
theorem F_70_5 : F 70 5 (.if_icmp .eq 14) 8 := ⟨3, by decide +kernel, rfl, rfl⟩
theorem F_70_19 : F 70 19 (.iconst 1) 20 := ⟨1, by decide +kernel, rfl, rfl⟩
theorem F_70_20 : F 70 20 (.goto 4) 23 := ⟨3, by decide +kernel, rfl, rfl⟩
theorem F_70_24 : F 70 24 (.ireturn) 25 := ⟨1, by decide +kernel, rfl, rfl⟩
theorem rt_70 : m_r 70 = (some .boolean) := by decide +kernel
theorem F_70_8 : F 70 8 (.aload_n 0) 9 := ⟨1, by decide +kernel, rfl, rfl⟩
theorem F_70_9 : F 70 9 (.getfield 15) 12 := ⟨3, by decide +kernel, rfl, rfl⟩
theorem F_70_12 : F 70 12 (.invokestatic 49) 15 := ⟨3, by decide +kernel, rfl, rfl⟩
theorem F_70_15 : F 70 15 (.iload_n 1) 16 := ⟨1, by decide +kernel, rfl, rfl⟩
theorem F_70_16 : F 70 16 (.if_icmp .ne 7) 19 := ⟨3, by decide +kernel, rfl, rfl⟩
theorem F_70_23 : F 70 23 (.iconst 0) 24 := ⟨1, by decide +kernel, rfl, rfl⟩
theorem t_X0_be {X : m_X} {d : Nat} {s : m_St} {P : Option Value → m_St → Prop} {g a : Int} (hg : ty g = 0)
    (l1 : inR a)
    (l2 : a < 0 → P none s)
    (l3 : 0 ≤ a → 6 ≤ a → P none s)
    (l4 : 0 ≤ a → a < 6 → wr ((m_upd s g 1 a) (g + 1)))
    (l5 : 0 ≤ a → a < 6 → P none (m_upd (m_upd s g 1 a) g 2 (hset ((m_upd s g 1 a) (g + 1)) (hf a))))
    : Cl X (d + 2) 42 [vR g, vI a] s P := by
  refine Cl_of n_42 rfl ?_
  show Rn _ _ _ _ [some (vR g), some (vI a)] [] _ _
  refine r_ldI_n (m := 1) F_42_0 rfl ?_
  refine r_if (t := 27) F_42_1 rfl l1 ?_ ?_
  · intro e1
    replace e1 : a < 0 := e1
    refine r_return F_42_27 rt_42 ?_
    exact (l2 e1)
  · intro e2
    replace e2 : 0 ≤ a := (Int.not_lt.mp e2)
    refine r_ldI_n (m := 1) F_42_4 rfl ?_
    refine r_bipush F_42_5 bi_6 ?_
    refine r_icmp (t := 27) F_42_7 rfl l1 (by decide) ?_ ?_
    · intro e3
      replace e3 : 6 ≤ a := e3
      refine r_return F_42_27 rt_42 ?_
      exact (l3 e2 e3)
    · intro e4
      replace e4 : a < 6 := (Int.not_le.mp e4)
      refine r_ldR_n (m := 0) F_42_10 rfl ?_
      refine r_ldI_n (m := 1) F_42_11 rfl ?_
      refine r_putI (J := 1) F_42_12 o_42 fl_0_15 hg (by decide) rfl (gw hg).2.2.1 pf_0_1 ?_
      refine r_ldR_n (m := 0) F_42_15 rfl ?_
      refine r_ldR_n (m := 0) F_42_16 rfl ?_
      refine r_ldR_n (m := 0) F_42_17 rfl ?_
      refine r_getI (J := 1) (e := a) F_42_18 o_42 fl_0_15 hg (by decide) rfl (gw hg).2.2.1 upd_eq ?_
      refine r_virt2 (A := [vI a]) (r := [vR g]) (n := 1) F_42_21 o_42 il_0_22 rfl rfl rfl rfl hg vy_43 (lay_le n_43 rfl) ?_
      refine sp_heldAs hg (l4 e2 e4) l1 ?_
      show Rn _ _ _ _ _ [vI (hset ((m_upd s g 1 a) (g + 1)) (hf a)), vR g] _ _
      refine r_putI (J := 2) F_42_24 o_42 fl_0_19 hg (by decide) rfl (gw hg).2.2.2.1 pf_0_2 ?_
      refine r_return F_42_27 rt_42 ?_
      exact (l5 e2 e4)
theorem t_X0_beLike {X : m_X} {d : Nat} {s : m_St} {P : Option Value → m_St → Prop} {g o a : Int} (hg : ty g = 0) (ho : ty o = 0)
    (l1 : inR a)
    (l2 : a < 0 → P none (m_upd (m_upd (m_upd (m_upd s (g + 1) 0 (s (o + 1) 0)) (g + 1) 1 (s (o + 1) 1)) (g + 1) 2 (s (o + 1) 2)) (g + 1) 3 (s (o + 1) 3)))
    (l3 : 0 ≤ a → 6 ≤ a → P none (m_upd (m_upd (m_upd (m_upd s (g + 1) 0 (s (o + 1) 0)) (g + 1) 1 (s (o + 1) 1)) (g + 1) 2 (s (o + 1) 2)) (g + 1) 3 (s (o + 1) 3)))
    (l4 : 0 ≤ a → a < 6 → wr ((m_upd (m_upd (m_upd (m_upd (m_upd s (g + 1) 0 (s (o + 1) 0)) (g + 1) 1 (s (o + 1) 1)) (g + 1) 2 (s (o + 1) 2)) (g + 1) 3 (s (o + 1) 3)) g 1 a) (g + 1)))
    (l5 : 0 ≤ a → a < 6 → P none (m_upd (m_upd (m_upd (m_upd (m_upd (m_upd s (g + 1) 0 (s (o + 1) 0)) (g + 1) 1 (s (o + 1) 1)) (g + 1) 2 (s (o + 1) 2)) (g + 1) 3 (s (o + 1) 3)) g 1 a) g 2 (hset ((m_upd (m_upd (m_upd (m_upd (m_upd s (g + 1) 0 (s (o + 1) 0)) (g + 1) 1 (s (o + 1) 1)) (g + 1) 2 (s (o + 1) 2)) (g + 1) 3 (s (o + 1) 3)) g 1 a) (g + 1)) (hf a))))
    : Cl X (d + 3) 53 [vR g, vR o, vI a] s P := by
  refine Cl_of n_53 rfl ?_
  show Rn _ _ _ _ [some (vR g), some (vR o), some (vI a), none] [] _ _
  refine r_iconst F_53_0 ?_
  refine r_stI_n (m := 3) (L' := [some (vR g), some (vR o), some (vI a), some (vI 0)]) F_53_1 rfl rfl ?_
  refine r_ldI_n (m := 3) F_53_2 rfl ?_
  refine r_iconst F_53_3 ?_
  refine r_icmpF (t := 24) F_53_4 rfl (by decide) (by decide) (by show ¬ ((4 : Int) ≤ 0); decide) ?_
  refine r_ldR_n (m := 0) F_53_7 rfl ?_
  refine r_getR (J := 0) F_53_8 o_53 fl_0_9 hg (by decide) rfl (gw2 hg).1 (gw2 hg).2 (gw hg).2.2.2.2.2.2.1 ?_
  refine r_ldI_n (m := 3) F_53_11 rfl ?_
  refine r_ldR_n (m := 1) F_53_12 rfl ?_
  refine r_ldI_n (m := 3) F_53_13 rfl ?_
  refine r_virt2 (A := [vI 0]) (r := [vI 0, vR (g + 1)]) (n := 1) F_53_14 o_53 il_0_26 rfl rfl rfl rfl ho vy_54 (lay_le n_54 rfl) ?_
  refine Cl_of n_54 rfl ?_
  show Rn _ _ _ _ [some (vR o), some (vI 0)] [] _ _
  refine r_ldI_n (m := 1) F_54_0 rfl ?_
  refine r_stat2 (A := [vI 0]) (r := []) (n := 1) F_54_1 o_54 il_0_33 (by decide) rfl rfl rfl rfl (lay_le n_46 rfl) ?_
  refine Cl_of n_46 rfl ?_
  show Rn _ _ _ _ [some (vI 0)] [] _ _
  refine r_ldI_n (m := 0) F_46_0 rfl ?_
  refine r_ifF (t := 13) F_46_1 rfl (by decide) (by show ¬ ((0 : Int) < 0); decide) ?_
  refine r_ldI_n (m := 0) F_46_4 rfl ?_
  refine r_iconst F_46_5 ?_
  refine r_icmpF (t := 13) F_46_6 rfl (by decide) (by decide) (by show ¬ ((4 : Int) ≤ 0); decide) ?_
  refine r_iconst F_46_9 ?_
  refine r_goto (t := 14) F_46_10 rfl ?_
  refine r_zreturn F_46_14 rt_46 (Or.inr rfl) ?_
  show Rn _ _ _ _ _ [vI 1] _ _
  refine r_ifF (t := 16) F_54_4 rfl (by decide) (by show ¬ ((1 : Int) = 0); decide) ?_
  refine r_ldR_n (m := 0) F_54_7 rfl ?_
  refine r_getR (J := 0) F_54_8 o_54 fl_0_9 ho (by decide) rfl (gw2 ho).1 (gw2 ho).2 (gw ho).2.2.2.2.2.2.1 ?_
  refine r_ldI_n (m := 1) F_54_11 rfl ?_
  refine r_iald (e := (s (o + 1) 0)) F_54_12 (gw ho).2.2.2.2.1 (by decide) (lt_ln (gw ho).2.2.2.2.2.1 (by decide)) rfl ?_
  refine r_goto (t := 17) F_54_13 rfl ?_
  refine r_ireturn F_54_17 rt_54 ?_
  show Rn _ _ _ _ _ [vI (s (o + 1) 0), vI 0, vR (g + 1)] _ _
  refine r_iast F_53_17 (gw hg).2.2.2.2.1 (by decide) (lt_ln (gw hg).2.2.2.2.2.1 (by decide)) ?_
  refine r_iinc (m := 3) (e := 1) (L' := [some (vR g), some (vR o), some (vI a), some (vI 1)]) F_53_18 rfl rfl rfl rfl ?_
  refine r_goto (t := 2) F_53_21 rfl ?_
  refine r_ldI_n (m := 3) F_53_2 rfl ?_
  refine r_iconst F_53_3 ?_
  refine r_icmpF (t := 24) F_53_4 rfl (by decide) (by decide) (by show ¬ ((4 : Int) ≤ 1); decide) ?_
  refine r_ldR_n (m := 0) F_53_7 rfl ?_
  refine r_getR (J := 0) F_53_8 o_53 fl_0_9 hg (by decide) rfl (gw2 hg).1 (gw2 hg).2 (gw hg).2.2.2.2.2.2.1 ?_
  refine r_ldI_n (m := 3) F_53_11 rfl ?_
  refine r_ldR_n (m := 1) F_53_12 rfl ?_
  refine r_ldI_n (m := 3) F_53_13 rfl ?_
  refine r_virt2 (A := [vI 1]) (r := [vI 1, vR (g + 1)]) (n := 1) F_53_14 o_53 il_0_26 rfl rfl rfl rfl ho vy_54 (lay_le n_54 rfl) ?_
  refine Cl_of n_54 rfl ?_
  show Rn _ _ _ _ [some (vR o), some (vI 1)] [] _ _
  refine r_ldI_n (m := 1) F_54_0 rfl ?_
  refine r_stat2 (A := [vI 1]) (r := []) (n := 1) F_54_1 o_54 il_0_33 (by decide) rfl rfl rfl rfl (lay_le n_46 rfl) ?_
  refine Cl_of n_46 rfl ?_
  show Rn _ _ _ _ [some (vI 1)] [] _ _
  refine r_ldI_n (m := 0) F_46_0 rfl ?_
  refine r_ifF (t := 13) F_46_1 rfl (by decide) (by show ¬ ((1 : Int) < 0); decide) ?_
  refine r_ldI_n (m := 0) F_46_4 rfl ?_
  refine r_iconst F_46_5 ?_
  refine r_icmpF (t := 13) F_46_6 rfl (by decide) (by decide) (by show ¬ ((4 : Int) ≤ 1); decide) ?_
  refine r_iconst F_46_9 ?_
  refine r_goto (t := 14) F_46_10 rfl ?_
  refine r_zreturn F_46_14 rt_46 (Or.inr rfl) ?_
  show Rn _ _ _ _ _ [vI 1] _ _
  refine r_ifF (t := 16) F_54_4 rfl (by decide) (by show ¬ ((1 : Int) = 0); decide) ?_
  refine r_ldR_n (m := 0) F_54_7 rfl ?_
  refine r_getR (J := 0) F_54_8 o_54 fl_0_9 ho (by decide) rfl (gw2 ho).1 (gw2 ho).2 (gw ho).2.2.2.2.2.2.1 ?_
  refine r_ldI_n (m := 1) F_54_11 rfl ?_
  refine r_iald (e := (s (o + 1) 1)) F_54_12 (gw ho).2.2.2.2.1 (by decide) (lt_ln (gw ho).2.2.2.2.2.1 (by decide)) (upd_nj (by decide)) ?_
  refine r_goto (t := 17) F_54_13 rfl ?_
  refine r_ireturn F_54_17 rt_54 ?_
  show Rn _ _ _ _ _ [vI (s (o + 1) 1), vI 1, vR (g + 1)] _ _
  refine r_iast F_53_17 (gw hg).2.2.2.2.1 (by decide) (lt_ln (gw hg).2.2.2.2.2.1 (by decide)) ?_
  refine r_iinc (m := 3) (e := 2) (L' := [some (vR g), some (vR o), some (vI a), some (vI 2)]) F_53_18 rfl rfl rfl rfl ?_
  refine r_goto (t := 2) F_53_21 rfl ?_
  refine r_ldI_n (m := 3) F_53_2 rfl ?_
  refine r_iconst F_53_3 ?_
  refine r_icmpF (t := 24) F_53_4 rfl (by decide) (by decide) (by show ¬ ((4 : Int) ≤ 2); decide) ?_
  refine r_ldR_n (m := 0) F_53_7 rfl ?_
  refine r_getR (J := 0) F_53_8 o_53 fl_0_9 hg (by decide) rfl (gw2 hg).1 (gw2 hg).2 (gw hg).2.2.2.2.2.2.1 ?_
  refine r_ldI_n (m := 3) F_53_11 rfl ?_
  refine r_ldR_n (m := 1) F_53_12 rfl ?_
  refine r_ldI_n (m := 3) F_53_13 rfl ?_
  refine r_virt2 (A := [vI 2]) (r := [vI 2, vR (g + 1)]) (n := 1) F_53_14 o_53 il_0_26 rfl rfl rfl rfl ho vy_54 (lay_le n_54 rfl) ?_
  refine Cl_of n_54 rfl ?_
  show Rn _ _ _ _ [some (vR o), some (vI 2)] [] _ _
  refine r_ldI_n (m := 1) F_54_0 rfl ?_
  refine r_stat2 (A := [vI 2]) (r := []) (n := 1) F_54_1 o_54 il_0_33 (by decide) rfl rfl rfl rfl (lay_le n_46 rfl) ?_
  refine Cl_of n_46 rfl ?_
  show Rn _ _ _ _ [some (vI 2)] [] _ _
  refine r_ldI_n (m := 0) F_46_0 rfl ?_
  refine r_ifF (t := 13) F_46_1 rfl (by decide) (by show ¬ ((2 : Int) < 0); decide) ?_
  refine r_ldI_n (m := 0) F_46_4 rfl ?_
  refine r_iconst F_46_5 ?_
  refine r_icmpF (t := 13) F_46_6 rfl (by decide) (by decide) (by show ¬ ((4 : Int) ≤ 2); decide) ?_
  refine r_iconst F_46_9 ?_
  refine r_goto (t := 14) F_46_10 rfl ?_
  refine r_zreturn F_46_14 rt_46 (Or.inr rfl) ?_
  show Rn _ _ _ _ _ [vI 1] _ _
  refine r_ifF (t := 16) F_54_4 rfl (by decide) (by show ¬ ((1 : Int) = 0); decide) ?_
  refine r_ldR_n (m := 0) F_54_7 rfl ?_
  refine r_getR (J := 0) F_54_8 o_54 fl_0_9 ho (by decide) rfl (gw2 ho).1 (gw2 ho).2 (gw ho).2.2.2.2.2.2.1 ?_
  refine r_ldI_n (m := 1) F_54_11 rfl ?_
  refine r_iald (e := (s (o + 1) 2)) F_54_12 (gw ho).2.2.2.2.1 (by decide) (lt_ln (gw ho).2.2.2.2.2.1 (by decide)) ((upd_nj (by decide)).trans (upd_nj (by decide))) ?_
  refine r_goto (t := 17) F_54_13 rfl ?_
  refine r_ireturn F_54_17 rt_54 ?_
  show Rn _ _ _ _ _ [vI (s (o + 1) 2), vI 2, vR (g + 1)] _ _
  refine r_iast F_53_17 (gw hg).2.2.2.2.1 (by decide) (lt_ln (gw hg).2.2.2.2.2.1 (by decide)) ?_
  refine r_iinc (m := 3) (e := 3) (L' := [some (vR g), some (vR o), some (vI a), some (vI 3)]) F_53_18 rfl rfl rfl rfl ?_
  refine r_goto (t := 2) F_53_21 rfl ?_
  refine r_ldI_n (m := 3) F_53_2 rfl ?_
  refine r_iconst F_53_3 ?_
  refine r_icmpF (t := 24) F_53_4 rfl (by decide) (by decide) (by show ¬ ((4 : Int) ≤ 3); decide) ?_
  refine r_ldR_n (m := 0) F_53_7 rfl ?_
  refine r_getR (J := 0) F_53_8 o_53 fl_0_9 hg (by decide) rfl (gw2 hg).1 (gw2 hg).2 (gw hg).2.2.2.2.2.2.1 ?_
  refine r_ldI_n (m := 3) F_53_11 rfl ?_
  refine r_ldR_n (m := 1) F_53_12 rfl ?_
  refine r_ldI_n (m := 3) F_53_13 rfl ?_
  refine r_virt2 (A := [vI 3]) (r := [vI 3, vR (g + 1)]) (n := 1) F_53_14 o_53 il_0_26 rfl rfl rfl rfl ho vy_54 (lay_le n_54 rfl) ?_
  refine Cl_of n_54 rfl ?_
  show Rn _ _ _ _ [some (vR o), some (vI 3)] [] _ _
  refine r_ldI_n (m := 1) F_54_0 rfl ?_
  refine r_stat2 (A := [vI 3]) (r := []) (n := 1) F_54_1 o_54 il_0_33 (by decide) rfl rfl rfl rfl (lay_le n_46 rfl) ?_
  refine Cl_of n_46 rfl ?_
  show Rn _ _ _ _ [some (vI 3)] [] _ _
  refine r_ldI_n (m := 0) F_46_0 rfl ?_
  refine r_ifF (t := 13) F_46_1 rfl (by decide) (by show ¬ ((3 : Int) < 0); decide) ?_
  refine r_ldI_n (m := 0) F_46_4 rfl ?_
  refine r_iconst F_46_5 ?_
  refine r_icmpF (t := 13) F_46_6 rfl (by decide) (by decide) (by show ¬ ((4 : Int) ≤ 3); decide) ?_
  refine r_iconst F_46_9 ?_
  refine r_goto (t := 14) F_46_10 rfl ?_
  refine r_zreturn F_46_14 rt_46 (Or.inr rfl) ?_
  show Rn _ _ _ _ _ [vI 1] _ _
  refine r_ifF (t := 16) F_54_4 rfl (by decide) (by show ¬ ((1 : Int) = 0); decide) ?_
  refine r_ldR_n (m := 0) F_54_7 rfl ?_
  refine r_getR (J := 0) F_54_8 o_54 fl_0_9 ho (by decide) rfl (gw2 ho).1 (gw2 ho).2 (gw ho).2.2.2.2.2.2.1 ?_
  refine r_ldI_n (m := 1) F_54_11 rfl ?_
  refine r_iald (e := (s (o + 1) 3)) F_54_12 (gw ho).2.2.2.2.1 (by decide) (lt_ln (gw ho).2.2.2.2.2.1 (by decide)) ((upd_nj (by decide)).trans ((upd_nj (by decide)).trans (upd_nj (by decide)))) ?_
  refine r_goto (t := 17) F_54_13 rfl ?_
  refine r_ireturn F_54_17 rt_54 ?_
  show Rn _ _ _ _ _ [vI (s (o + 1) 3), vI 3, vR (g + 1)] _ _
  refine r_iast F_53_17 (gw hg).2.2.2.2.1 (by decide) (lt_ln (gw hg).2.2.2.2.2.1 (by decide)) ?_
  refine r_iinc (m := 3) (e := 4) (L' := [some (vR g), some (vR o), some (vI a), some (vI 4)]) F_53_18 rfl rfl rfl rfl ?_
  refine r_goto (t := 2) F_53_21 rfl ?_
  refine r_ldI_n (m := 3) F_53_2 rfl ?_
  refine r_iconst F_53_3 ?_
  refine r_icmpT (t := 24) F_53_4 rfl (by decide) (by decide) (by show (4 : Int) ≤ 4; decide) ?_
  refine r_ldR_n (m := 0) F_53_24 rfl ?_
  refine r_ldI_n (m := 2) F_53_25 rfl ?_
  refine r_virt2 (A := [vI a]) (r := []) (n := 1) F_53_26 o_53 il_0_29 rfl rfl rfl rfl hg vy_42 (lay_le n_42 rfl) ?_
  refine Cl_of n_42 rfl ?_
  show Rn _ _ _ _ [some (vR g), some (vI a)] [] _ _
  refine r_ldI_n (m := 1) F_42_0 rfl ?_
  refine r_if (t := 27) F_42_1 rfl l1 ?_ ?_
  · intro e1
    replace e1 : a < 0 := e1
    refine r_return F_42_27 rt_42 ?_
    show Rn _ _ _ _ _ [] _ _
    refine r_return F_53_29 rt_53 ?_
    exact (l2 e1)
  · intro e2
    replace e2 : 0 ≤ a := (Int.not_lt.mp e2)
    refine r_ldI_n (m := 1) F_42_4 rfl ?_
    refine r_bipush F_42_5 bi_6 ?_
    refine r_icmp (t := 27) F_42_7 rfl l1 (by decide) ?_ ?_
    · intro e3
      replace e3 : 6 ≤ a := e3
      refine r_return F_42_27 rt_42 ?_
      show Rn _ _ _ _ _ [] _ _
      refine r_return F_53_29 rt_53 ?_
      exact (l3 e2 e3)
    · intro e4
      replace e4 : a < 6 := (Int.not_le.mp e4)
      refine r_ldR_n (m := 0) F_42_10 rfl ?_
      refine r_ldI_n (m := 1) F_42_11 rfl ?_
      refine r_putI (J := 1) F_42_12 o_42 fl_0_15 hg (by decide) rfl (gw hg).2.2.1 pf_0_1 ?_
      refine r_ldR_n (m := 0) F_42_15 rfl ?_
      refine r_ldR_n (m := 0) F_42_16 rfl ?_
      refine r_ldR_n (m := 0) F_42_17 rfl ?_
      refine r_getI (J := 1) (e := a) F_42_18 o_42 fl_0_15 hg (by decide) rfl (gw hg).2.2.1 upd_eq ?_
      refine r_virt2 (A := [vI a]) (r := [vR g]) (n := 1) F_42_21 o_42 il_0_22 rfl rfl rfl rfl hg vy_43 (lay_le n_43 rfl) ?_
      refine sp_heldAs hg (l4 e2 e4) l1 ?_
      show Rn _ _ _ _ _ [vI (hset ((m_upd (m_upd (m_upd (m_upd (m_upd s (g + 1) 0 (s (o + 1) 0)) (g + 1) 1 (s (o + 1) 1)) (g + 1) 2 (s (o + 1) 2)) (g + 1) 3 (s (o + 1) 3)) g 1 a) (g + 1)) (hf a)), vR g] _ _
      refine r_putI (J := 2) F_42_24 o_42 fl_0_19 hg (by decide) rfl (gw hg).2.2.2.1 pf_0_2 ?_
      refine r_return F_42_27 rt_42 ?_
      show Rn _ _ _ _ _ [] _ _
      refine r_return F_53_29 rt_53 ?_
      exact (l5 e2 e4)
theorem t_X0_weigh {X : m_X} {d : Nat} {s : m_St} {P : Option Value → m_St → Prop} {g a b : Int} (hg : ty g = 0)
    (l1 : inR a)
    (l2 : a < 0 → P none s)
    (l3 : 0 ≤ a → 4 ≤ a → P none s)
    (l4 : 0 ≤ a → a < 4 → inR b)
    (l5 : 0 ≤ a → a < 4 → inR (min 20 b))
    (l6 : 0 ≤ a → a < 4 → inR ((m_upd s (g + 1) a (max 0 (min 20 b))) g 1))
    (l7 : 0 ≤ a → a < 4 → inR (max 0 (min 20 b)))
    (l8 : 0 ≤ a → a < 4 → (max 0 (min 20 b)) < (hf ((m_upd s (g + 1) a (max 0 (min 20 b))) g 1)) → P none (m_upd (m_upd s (g + 1) a (max 0 (min 20 b))) g 2 (iAnd ((m_upd s (g + 1) a (max 0 (min 20 b))) g 2) (iXor (iShl 1 a) (-1)))))
    (l9 : 0 ≤ a → a < 4 → (hf ((m_upd s (g + 1) a (max 0 (min 20 b))) g 1)) ≤ (max 0 (min 20 b)) → P none (m_upd (m_upd s (g + 1) a (max 0 (min 20 b))) g 2 (iOr ((m_upd s (g + 1) a (max 0 (min 20 b))) g 2) (iShl 1 a))))
    : Cl X (d + 1) 45 [vR g, vI a, vI b] s P := by
  refine Cl_of n_45 rfl ?_
  show Rn _ _ _ _ [some (vR g), some (vI a), some (vI b)] [] _ _
  refine r_ldI_n (m := 1) F_45_0 rfl ?_
  refine r_stat2 (A := [vI a]) (r := []) (n := 1) F_45_1 o_45 il_0_33 (by decide) rfl rfl rfl rfl (lay_le n_46 rfl) ?_
  refine Cl_of n_46 rfl ?_
  show Rn _ _ _ _ [some (vI a)] [] _ _
  refine r_ldI_n (m := 0) F_46_0 rfl ?_
  refine r_if (t := 13) F_46_1 rfl l1 ?_ ?_
  · intro e1
    replace e1 : a < 0 := e1
    refine r_iconst F_46_13 ?_
    refine r_zreturn F_46_14 rt_46 (Or.inl rfl) ?_
    show Rn _ _ _ _ _ [vI 0] _ _
    refine r_ifF (t := 8) F_45_4 rfl (by decide) (by show ¬ (¬ (0 : Int) = 0); decide) ?_
    refine r_return F_45_7 rt_45 ?_
    exact (l2 e1)
  · intro e2
    replace e2 : 0 ≤ a := (Int.not_lt.mp e2)
    refine r_ldI_n (m := 0) F_46_4 rfl ?_
    refine r_iconst F_46_5 ?_
    refine r_icmp (t := 13) F_46_6 rfl l1 (by decide) ?_ ?_
    · intro e3
      replace e3 : 4 ≤ a := e3
      refine r_iconst F_46_13 ?_
      refine r_zreturn F_46_14 rt_46 (Or.inl rfl) ?_
      show Rn _ _ _ _ _ [vI 0] _ _
      refine r_ifF (t := 8) F_45_4 rfl (by decide) (by show ¬ (¬ (0 : Int) = 0); decide) ?_
      refine r_return F_45_7 rt_45 ?_
      exact (l3 e2 e3)
    · intro e4
      replace e4 : a < 4 := (Int.not_le.mp e4)
      refine r_iconst F_46_9 ?_
      refine r_goto (t := 14) F_46_10 rfl ?_
      refine r_zreturn F_46_14 rt_46 (Or.inr rfl) ?_
      show Rn _ _ _ _ _ [vI 1] _ _
      refine r_ifT (t := 8) F_45_4 rfl (by decide) (by show ¬ (1 : Int) = 0; decide) ?_
      refine r_ldR_n (m := 0) F_45_8 rfl ?_
      refine r_getR (J := 0) F_45_9 o_45 fl_0_9 hg (by decide) rfl (gw2 hg).1 (gw2 hg).2 (gw hg).2.2.2.2.2.2.1 ?_
      refine r_ldI_n (m := 1) F_45_12 rfl ?_
      refine r_iconst F_45_13 ?_
      refine r_bipush F_45_14 bi_20 ?_
      refine r_ldI_n (m := 2) F_45_16 rfl ?_
      refine r_mmin F_45_17 o_45 iln_0_37 mm_0_37 rfl (by decide) (l4 e2 e4) ?_
      refine r_mmax F_45_20 o_45 iln_0_43 mm_0_43 rfl (by decide) (l5 e2 e4) ?_
      refine r_iast F_45_23 (gw hg).2.2.2.2.1 e2 (lt_ln (gw hg).2.2.2.2.2.1 e4) ?_
      refine r_ldR_n (m := 0) F_45_24 rfl ?_
      refine r_getR (J := 0) F_45_25 o_45 fl_0_9 hg (by decide) rfl (gw2 hg).1 (gw2 hg).2 (gw hg).2.2.2.2.2.2.1 ?_
      refine r_ldI_n (m := 1) F_45_28 rfl ?_
      refine r_iald (e := (max 0 (min 20 b))) F_45_29 (gw hg).2.2.2.2.1 e2 (lt_ln (gw hg).2.2.2.2.2.1 e4) upd_eq ?_
      refine r_ldR_n (m := 0) F_45_30 rfl ?_
      refine r_getI (J := 1) (e := ((m_upd s (g + 1) a (max 0 (min 20 b))) g 1)) F_45_31 o_45 fl_0_15 hg (by decide) rfl (gw hg).2.2.1 rfl ?_
      refine r_stat2 (A := [vI ((m_upd s (g + 1) a (max 0 (min 20 b))) g 1)]) (r := [vI (max 0 (min 20 b))]) (n := 1) F_45_34 o_45 il_0_46 (by decide) rfl rfl rfl rfl (lay_le n_44 rfl) ?_
      refine sp_holdsFrom (l6 e2 e4) ?_
      show Rn _ _ _ _ _ [vI (hf ((m_upd s (g + 1) a (max 0 (min 20 b))) g 1)), vI (max 0 (min 20 b))] _ _
      refine r_icmp (t := 55) F_45_37 rfl (l7 e2 e4) (inR_hf _) ?_ ?_
      · intro e5
        replace e5 : (max 0 (min 20 b)) < (hf ((m_upd s (g + 1) a (max 0 (min 20 b))) g 1)) := e5
        refine r_ldR_n (m := 0) F_45_55 rfl ?_
        refine r_dupR F_45_56 ?_
        refine r_getI (J := 2) (e := ((m_upd s (g + 1) a (max 0 (min 20 b))) g 2)) F_45_57 o_45 fl_0_19 hg (by decide) rfl (gw hg).2.2.2.1 rfl ?_
        refine r_iconst F_45_60 ?_
        refine r_ldI_n (m := 1) F_45_61 rfl ?_
        refine r_ishl F_45_62 rfl ?_
        refine r_iconst F_45_63 ?_
        refine r_ixor F_45_64 rfl ?_
        refine r_iand F_45_65 rfl ?_
        refine r_putI (J := 2) F_45_66 o_45 fl_0_19 hg (by decide) rfl (gw hg).2.2.2.1 pf_0_2 ?_
        refine r_return F_45_69 rt_45 ?_
        exact (l8 e2 e4 e5)
      · intro e6
        replace e6 : (hf ((m_upd s (g + 1) a (max 0 (min 20 b))) g 1)) ≤ (max 0 (min 20 b)) := (Int.not_lt.mp e6)
        refine r_ldR_n (m := 0) F_45_40 rfl ?_
        refine r_dupR F_45_41 ?_
        refine r_getI (J := 2) (e := ((m_upd s (g + 1) a (max 0 (min 20 b))) g 2)) F_45_42 o_45 fl_0_19 hg (by decide) rfl (gw hg).2.2.2.1 rfl ?_
        refine r_iconst F_45_45 ?_
        refine r_ldI_n (m := 1) F_45_46 rfl ?_
        refine r_ishl F_45_47 rfl ?_
        refine r_ior F_45_48 rfl ?_
        refine r_putI (J := 2) F_45_49 o_45 fl_0_19 hg (by decide) rfl (gw hg).2.2.2.1 pf_0_2 ?_
        refine r_goto (t := 69) F_45_52 rfl ?_
        refine r_return F_45_69 rt_45 ?_
        exact (l9 e2 e4 e6)
theorem t_X0_moves {X : m_X} {d : Nat} {s : m_St} {P : Option Value → m_St → Prop} {g a b : Int} (hg : ty g = 0)
    (l1 : (iAnd (iShr b (4 * a)) (s g 2)) = 0 → inR (s g 1))
    (l2 : (iAnd (iShr b (4 * a)) (s g 2)) = 0 → (ma (s g 1)) = 1 → P (some (vI 0)) s)
    (l3 : (iAnd (iShr b (4 * a)) (s g 2)) = 0 → (ma (s g 1)) = 2 → P (some (vI 2)) s)
    (l4 : (iAnd (iShr b (4 * a)) (s g 2)) = 0 → (ma (s g 1)) = 3 → (iAnd (iShr (s g 2) a) 1) = 0 → P (some (vI (-1))) s)
    (l5 : (iAnd (iShr b (4 * a)) (s g 2)) = 0 → (ma (s g 1)) = 3 → ¬ (iAnd (iShr (s g 2) a) 1) = 0 → P (some (vI 1)) s)
    (l6 : (iAnd (iShr b (4 * a)) (s g 2)) = 0 → ((ma (s g 1)) < 1 ∨ 3 < (ma (s g 1))) → P (some (vI 1)) s)
    (l7 : ¬ (iAnd (iShr b (4 * a)) (s g 2)) = 0 → inR (s g 1))
    (l8 : ¬ (iAnd (iShr b (4 * a)) (s g 2)) = 0 → (ma (s g 1)) = 1 → P (some (vI 2)) s)
    (l9 : ¬ (iAnd (iShr b (4 * a)) (s g 2)) = 0 → (ma (s g 1)) = 2 → P (some (vI 3)) s)
    (l10 : ¬ (iAnd (iShr b (4 * a)) (s g 2)) = 0 → (ma (s g 1)) = 3 → (iAnd (iShr (s g 2) a) 1) = 0 → P (some (vI (-1))) s)
    (l11 : ¬ (iAnd (iShr b (4 * a)) (s g 2)) = 0 → (ma (s g 1)) = 3 → ¬ (iAnd (iShr (s g 2) a) 1) = 0 → P (some (vI 2)) s)
    (l12 : ¬ (iAnd (iShr b (4 * a)) (s g 2)) = 0 → ((ma (s g 1)) < 1 ∨ 3 < (ma (s g 1))) → P (some (vI 2)) s)
    : Cl X (d + 1) 60 [vR g, vI a, vI b] s P := by
  refine Cl_of n_60 rfl ?_
  show Rn _ _ _ _ [some (vR g), some (vI a), some (vI b), none] [] _ _
  refine r_ldI_n (m := 2) F_60_0 rfl ?_
  refine r_iconst F_60_1 ?_
  refine r_ldI_n (m := 1) F_60_2 rfl ?_
  refine r_imul F_60_3 rfl ?_
  refine r_ishr F_60_4 rfl ?_
  refine r_ldR_n (m := 0) F_60_5 rfl ?_
  refine r_getI (J := 2) (e := (s g 2)) F_60_6 o_60 fl_0_19 hg (by decide) rfl (gw hg).2.2.2.1 rfl ?_
  refine r_iand F_60_9 rfl ?_
  refine r_if (t := 17) F_60_10 rfl (inR_iAnd _ _) ?_ ?_
  · intro e1
    replace e1 : (iAnd (iShr b (4 * a)) (s g 2)) = 0 := e1
    refine r_iconst F_60_17 ?_
    refine r_stI_n (m := 3) (L' := [some (vR g), some (vI a), some (vI b), some (vI 1)]) F_60_18 rfl rfl ?_
    refine r_ldR_n (m := 0) F_60_19 rfl ?_
    refine r_getI (J := 1) (e := (s g 1)) F_60_20 o_60 fl_0_15 hg (by decide) rfl (gw hg).2.2.1 rfl ?_
    refine r_stat2 (A := [vI (s g 1)]) (r := []) (n := 1) F_60_23 o_60 il_0_49 (by decide) rfl rfl rfl rfl (lay_le n_61 rfl) ?_
    refine sp_movedAs (l1 e1) ?_
    show Rn _ _ _ _ _ [vI (ma (s g 1))] _ _
    rcases (show (ma (s g 1)) = 1 ∨ (ma (s g 1)) = 2 ∨ (ma (s g 1)) = 3 ∨ ((ma (s g 1)) < 1 ∨ 3 < (ma (s g 1))) by omega) with hh | hh | hh | hh
    · have e2 := hh
      refine r_tswI (t := 52) (z := 26) (i := 0) F_60_26 (inR_ma _) rfl rfl (by omega) (by decide) ?_
      refine r_ldI_n (m := 3) F_60_52 rfl ?_
      refine r_iconst F_60_53 ?_
      refine r_icmpF (t := 61) F_60_54 rfl (by decide) (by decide) (by show ¬ (¬ (1 : Int) = 1); decide) ?_
      refine r_iconst F_60_57 ?_
      refine r_goto (t := 62) F_60_58 rfl ?_
      refine r_ireturn F_60_62 rt_60 ?_
      exact (l2 e1 e2)
    · have e3 := hh
      refine r_tswI (t := 63) (z := 37) (i := 1) F_60_26 (inR_ma _) rfl rfl (by omega) (by decide) ?_
      refine r_ldI_n (m := 3) F_60_63 rfl ?_
      refine r_iconst F_60_64 ?_
      refine r_iadd (e := 2) F_60_65 (by decide) ?_
      refine r_ireturn F_60_66 rt_60 ?_
      exact (l3 e1 e3)
    · have e4 := hh
      refine r_tswI (t := 67) (z := 41) (i := 2) F_60_26 (inR_ma _) rfl rfl (by omega) (by decide) ?_
      refine r_ldR_n (m := 0) F_60_67 rfl ?_
      refine r_ldI_n (m := 1) F_60_68 rfl ?_
      refine r_virt2 (A := [vI a]) (r := []) (n := 1) F_60_69 o_60 il_0_52 rfl rfl rfl rfl hg vy_62 (lay_le n_62 rfl) ?_
      refine Cl_of n_62 rfl ?_
      show Rn _ _ _ _ [some (vR g), some (vI a)] [] _ _
      refine r_ldR_n (m := 0) F_62_0 rfl ?_
      refine r_getI (J := 2) (e := (s g 2)) F_62_1 o_62 fl_0_19 hg (by decide) rfl (gw hg).2.2.2.1 rfl ?_
      refine r_ldI_n (m := 1) F_62_4 rfl ?_
      refine r_ishr F_62_5 rfl ?_
      refine r_iconst F_62_6 ?_
      refine r_iand F_62_7 rfl ?_
      refine r_if (t := 15) F_62_8 rfl (inR_iAnd _ _) ?_ ?_
      · intro e5
        replace e5 : (iAnd (iShr (s g 2) a) 1) = 0 := e5
        refine r_iconst F_62_15 ?_
        refine r_zreturn F_62_16 rt_62 (Or.inl rfl) ?_
        show Rn _ _ _ _ _ [vI 0] _ _
        refine r_ifT (t := 79) F_60_72 rfl (by decide) (by show (0 : Int) = 0; decide) ?_
        refine r_iconst F_60_79 ?_
        refine r_ireturn F_60_80 rt_60 ?_
        exact (l4 e1 e4 e5)
      · intro e6
        replace e6 : ¬ (iAnd (iShr (s g 2) a) 1) = 0 := e6
        refine r_iconst F_62_11 ?_
        refine r_goto (t := 16) F_62_12 rfl ?_
        refine r_zreturn F_62_16 rt_62 (Or.inr rfl) ?_
        show Rn _ _ _ _ _ [vI 1] _ _
        refine r_ifF (t := 79) F_60_72 rfl (by decide) (by show ¬ ((1 : Int) = 0); decide) ?_
        refine r_ldI_n (m := 3) F_60_75 rfl ?_
        refine r_goto (t := 80) F_60_76 rfl ?_
        refine r_ireturn F_60_80 rt_60 ?_
        exact (l5 e1 e4 e6)
    · have e7 := hh
      refine r_tswD (t := 81) F_60_26 (inR_ma _) rfl e7 ?_
      refine r_ldI_n (m := 3) F_60_81 rfl ?_
      refine r_ireturn F_60_82 rt_60 ?_
      exact (l6 e1 e7)
  · intro e8
    replace e8 : ¬ (iAnd (iShr b (4 * a)) (s g 2)) = 0 := e8
    refine r_iconst F_60_13 ?_
    refine r_goto (t := 18) F_60_14 rfl ?_
    refine r_stI_n (m := 3) (L' := [some (vR g), some (vI a), some (vI b), some (vI 2)]) F_60_18 rfl rfl ?_
    refine r_ldR_n (m := 0) F_60_19 rfl ?_
    refine r_getI (J := 1) (e := (s g 1)) F_60_20 o_60 fl_0_15 hg (by decide) rfl (gw hg).2.2.1 rfl ?_
    refine r_stat2 (A := [vI (s g 1)]) (r := []) (n := 1) F_60_23 o_60 il_0_49 (by decide) rfl rfl rfl rfl (lay_le n_61 rfl) ?_
    refine sp_movedAs (l7 e8) ?_
    show Rn _ _ _ _ _ [vI (ma (s g 1))] _ _
    rcases (show (ma (s g 1)) = 1 ∨ (ma (s g 1)) = 2 ∨ (ma (s g 1)) = 3 ∨ ((ma (s g 1)) < 1 ∨ 3 < (ma (s g 1))) by omega) with hh | hh | hh | hh
    · have e9 := hh
      refine r_tswI (t := 52) (z := 26) (i := 0) F_60_26 (inR_ma _) rfl rfl (by omega) (by decide) ?_
      refine r_ldI_n (m := 3) F_60_52 rfl ?_
      refine r_iconst F_60_53 ?_
      refine r_icmpT (t := 61) F_60_54 rfl (by decide) (by decide) (by show ¬ (2 : Int) = 1; decide) ?_
      refine r_ldI_n (m := 3) F_60_61 rfl ?_
      refine r_ireturn F_60_62 rt_60 ?_
      exact (l8 e8 e9)
    · have e10 := hh
      refine r_tswI (t := 63) (z := 37) (i := 1) F_60_26 (inR_ma _) rfl rfl (by omega) (by decide) ?_
      refine r_ldI_n (m := 3) F_60_63 rfl ?_
      refine r_iconst F_60_64 ?_
      refine r_iadd (e := 3) F_60_65 (by decide) ?_
      refine r_ireturn F_60_66 rt_60 ?_
      exact (l9 e8 e10)
    · have e11 := hh
      refine r_tswI (t := 67) (z := 41) (i := 2) F_60_26 (inR_ma _) rfl rfl (by omega) (by decide) ?_
      refine r_ldR_n (m := 0) F_60_67 rfl ?_
      refine r_ldI_n (m := 1) F_60_68 rfl ?_
      refine r_virt2 (A := [vI a]) (r := []) (n := 1) F_60_69 o_60 il_0_52 rfl rfl rfl rfl hg vy_62 (lay_le n_62 rfl) ?_
      refine Cl_of n_62 rfl ?_
      show Rn _ _ _ _ [some (vR g), some (vI a)] [] _ _
      refine r_ldR_n (m := 0) F_62_0 rfl ?_
      refine r_getI (J := 2) (e := (s g 2)) F_62_1 o_62 fl_0_19 hg (by decide) rfl (gw hg).2.2.2.1 rfl ?_
      refine r_ldI_n (m := 1) F_62_4 rfl ?_
      refine r_ishr F_62_5 rfl ?_
      refine r_iconst F_62_6 ?_
      refine r_iand F_62_7 rfl ?_
      refine r_if (t := 15) F_62_8 rfl (inR_iAnd _ _) ?_ ?_
      · intro e12
        replace e12 : (iAnd (iShr (s g 2) a) 1) = 0 := e12
        refine r_iconst F_62_15 ?_
        refine r_zreturn F_62_16 rt_62 (Or.inl rfl) ?_
        show Rn _ _ _ _ _ [vI 0] _ _
        refine r_ifT (t := 79) F_60_72 rfl (by decide) (by show (0 : Int) = 0; decide) ?_
        refine r_iconst F_60_79 ?_
        refine r_ireturn F_60_80 rt_60 ?_
        exact (l10 e8 e11 e12)
      · intro e13
        replace e13 : ¬ (iAnd (iShr (s g 2) a) 1) = 0 := e13
        refine r_iconst F_62_11 ?_
        refine r_goto (t := 16) F_62_12 rfl ?_
        refine r_zreturn F_62_16 rt_62 (Or.inr rfl) ?_
        show Rn _ _ _ _ _ [vI 1] _ _
        refine r_ifF (t := 79) F_60_72 rfl (by decide) (by show ¬ ((1 : Int) = 0); decide) ?_
        refine r_ldI_n (m := 3) F_60_75 rfl ?_
        refine r_goto (t := 80) F_60_76 rfl ?_
        refine r_ireturn F_60_80 rt_60 ?_
        exact (l11 e8 e11 e13)
    · have e14 := hh
      refine r_tswD (t := 81) F_60_26 (inR_ma _) rfl e14 ?_
      refine r_ldI_n (m := 3) F_60_81 rfl ?_
      refine r_ireturn F_60_82 rt_60 ?_
      exact (l12 e8 e14)
theorem t_X0_holds {X : m_X} {d : Nat} {s : m_St} {P : Option Value → m_St → Prop} {g a : Int} (hg : ty g = 0)
    (l1 : (iAnd (iShr (s g 2) a) 1) = 0 → P (some (vI 0)) s)
    (l2 : ¬ (iAnd (iShr (s g 2) a) 1) = 0 → P (some (vI 1)) s)
    : Cl X d 62 [vR g, vI a] s P := by
  refine Cl_of n_62 rfl ?_
  show Rn _ _ _ _ [some (vR g), some (vI a)] [] _ _
  refine r_ldR_n (m := 0) F_62_0 rfl ?_
  refine r_getI (J := 2) (e := (s g 2)) F_62_1 o_62 fl_0_19 hg (by decide) rfl (gw hg).2.2.2.1 rfl ?_
  refine r_ldI_n (m := 1) F_62_4 rfl ?_
  refine r_ishr F_62_5 rfl ?_
  refine r_iconst F_62_6 ?_
  refine r_iand F_62_7 rfl ?_
  refine r_if (t := 15) F_62_8 rfl (inR_iAnd _ _) ?_ ?_
  · intro e1
    replace e1 : (iAnd (iShr (s g 2) a) 1) = 0 := e1
    refine r_iconst F_62_15 ?_
    refine r_zreturn F_62_16 rt_62 (Or.inl rfl) ?_
    exact (l1 e1)
  · intro e2
    replace e2 : ¬ (iAnd (iShr (s g 2) a) 1) = 0 := e2
    refine r_iconst F_62_11 ?_
    refine r_goto (t := 16) F_62_12 rfl ?_
    refine r_zreturn F_62_16 rt_62 (Or.inr rfl) ?_
    exact (l2 e2)
theorem t_X0_isOf {X : m_X} {d : Nat} {s : m_St} {P : Option Value → m_St → Prop} {g a : Int} (hg : ty g = 0)
    (l1 : inR (s g 1))
    (l2 : inR a)
    (l3 : (s g 1) = a → P (some (vI 1)) s)
    (l4 : ¬ (s g 1) = a → ¬ (ma (s g 1)) = a → P (some (vI 0)) s)
    (l5 : ¬ (s g 1) = a → (ma (s g 1)) = a → P (some (vI 1)) s)
    : Cl X (d + 1) 70 [vR g, vI a] s P := by
  refine Cl_of n_70 rfl ?_
  show Rn _ _ _ _ [some (vR g), some (vI a)] [] _ _
  refine r_ldR_n (m := 0) F_70_0 rfl ?_
  refine r_getI (J := 1) (e := (s g 1)) F_70_1 o_70 fl_0_15 hg (by decide) rfl (gw hg).2.2.1 rfl ?_
  refine r_ldI_n (m := 1) F_70_4 rfl ?_
  refine r_icmp (t := 19) F_70_5 rfl l1 l2 ?_ ?_
  · intro e1
    replace e1 : (s g 1) = a := e1
    refine r_iconst F_70_19 ?_
    refine r_goto (t := 24) F_70_20 rfl ?_
    refine r_zreturn F_70_24 rt_70 (Or.inr rfl) ?_
    exact (l3 e1)
  · intro e2
    replace e2 : ¬ (s g 1) = a := e2
    refine r_ldR_n (m := 0) F_70_8 rfl ?_
    refine r_getI (J := 1) (e := (s g 1)) F_70_9 o_70 fl_0_15 hg (by decide) rfl (gw hg).2.2.1 rfl ?_
    refine r_stat2 (A := [vI (s g 1)]) (r := []) (n := 1) F_70_12 o_70 il_0_49 (by decide) rfl rfl rfl rfl (lay_le n_61 rfl) ?_
    refine sp_movedAs l1 ?_
    show Rn _ _ _ _ _ [vI (ma (s g 1))] _ _
    refine r_ldI_n (m := 1) F_70_15 rfl ?_
    refine r_icmp (t := 23) F_70_16 rfl (inR_ma _) l2 ?_ ?_
    · intro e3
      replace e3 : ¬ (ma (s g 1)) = a := e3
      refine r_iconst F_70_23 ?_
      refine r_zreturn F_70_24 rt_70 (Or.inl rfl) ?_
      exact (l4 e2 e3)
    · intro e4
      replace e4 : (ma (s g 1)) = a := (Classical.not_not.mp e4)
      refine r_iconst F_70_19 ?_
      refine r_goto (t := 24) F_70_20 rfl ?_
      refine r_zreturn F_70_24 rt_70 (Or.inr rfl) ?_
      exact (l5 e2 e4)
