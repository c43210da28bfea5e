/-! walks: deeds of the reference -/
theorem n_206 : m_n 206 = 4 := by decide +kernel
theorem F_206_0 : F 206 0 (.aload_n 0) 1 := ⟨1, by decide +kernel, rfl, rfl⟩
theorem F_206_1 : F 206 1 (.getfield 25) 4 := ⟨3, by decide +kernel, rfl, rfl⟩
theorem o_206 : m_o 206 = 6 := by decide +kernel
theorem F_206_4 : F 206 4 (.bipush 6) 6 := ⟨2, by decide +kernel, rfl, rfl⟩
theorem F_206_6 : F 206 6 (.iload_n 1) 7 := ⟨1, by decide +kernel, rfl, rfl⟩
theorem F_206_7 : F 206 7 (.iconst 4) 8 := ⟨1, by decide +kernel, rfl, rfl⟩
theorem F_206_8 : F 206 8 (.idiv) 9 := ⟨1, by decide +kernel, rfl, rfl⟩
theorem F_206_9 : F 206 9 (.isub) 10 := ⟨1, by decide +kernel, rfl, rfl⟩
theorem F_206_10 : F 206 10 (.iaload) 11 := ⟨1, by decide +kernel, rfl, rfl⟩
theorem F_206_11 : F 206 11 (.iconst 1) 12 := ⟨1, by decide +kernel, rfl, rfl⟩
theorem F_206_12 : F 206 12 (.isub) 13 := ⟨1, by decide +kernel, rfl, rfl⟩
theorem F_206_13 : F 206 13 (.istore_n 2) 14 := ⟨1, by decide +kernel, rfl, rfl⟩
theorem F_206_14 : F 206 14 (.bipush 8) 16 := ⟨2, by decide +kernel, rfl, rfl⟩
theorem F_206_16 : F 206 16 (.iconst 5) 17 := ⟨1, by decide +kernel, rfl, rfl⟩
theorem F_206_17 : F 206 17 (.iload_n 2) 18 := ⟨1, by decide +kernel, rfl, rfl⟩
theorem F_206_18 : F 206 18 (.imul) 19 := ⟨1, by decide +kernel, rfl, rfl⟩
theorem F_206_19 : F 206 19 (.iadd) 20 := ⟨1, by decide +kernel, rfl, rfl⟩
theorem F_206_20 : F 206 20 (.iconst 1) 21 := ⟨1, by decide +kernel, rfl, rfl⟩
theorem F_206_21 : F 206 21 (.iadd) 22 := ⟨1, by decide +kernel, rfl, rfl⟩
theorem F_206_22 : F 206 22 (.iload_n 1) 23 := ⟨1, by decide +kernel, rfl, rfl⟩
theorem F_206_23 : F 206 23 (.iconst 4) 24 := ⟨1, by decide +kernel, rfl, rfl⟩
theorem F_206_24 : F 206 24 (.irem) 25 := ⟨1, by decide +kernel, rfl, rfl⟩
theorem F_206_25 : F 206 25 (.iadd) 26 := ⟨1, by decide +kernel, rfl, rfl⟩
theorem F_206_26 : F 206 26 (.istore_n 3) 27 := ⟨1, by decide +kernel, rfl, rfl⟩
theorem F_206_27 : F 206 27 (.aload_n 0) 28 := ⟨1, by decide +kernel, rfl, rfl⟩
theorem F_206_28 : F 206 28 (.iconst 1) 29 := ⟨1, by decide +kernel, rfl, rfl⟩
theorem F_206_29 : F 206 29 (.iload_n 3) 30 := ⟨1, by decide +kernel, rfl, rfl⟩
theorem F_206_30 : F 206 30 (.aload_n 0) 31 := ⟨1, by decide +kernel, rfl, rfl⟩
theorem F_206_31 : F 206 31 (.getfield 25) 34 := ⟨3, by decide +kernel, rfl, rfl⟩
theorem F_206_34 : F 206 34 (.iload_n 3) 35 := ⟨1, by decide +kernel, rfl, rfl⟩
theorem F_206_35 : F 206 35 (.iaload) 36 := ⟨1, by decide +kernel, rfl, rfl⟩
theorem F_206_36 : F 206 36 (.iconst 0) 37 := ⟨1, by decide +kernel, rfl, rfl⟩
theorem F_206_37 : F 206 37 (.invokevirtual 171) 40 := ⟨3, by decide +kernel, rfl, rfl⟩
theorem il_6_171 : ilq 6 171 0 200 4 = true := by decide +kernel
theorem vy_200 : (m_cls 6).1 = (m_y 200).cls ∧ 6 < m_cl.length := by decide +kernel
theorem F_206_40 : F 206 40 (.aload_n 0) 41 := ⟨1, by decide +kernel, rfl, rfl⟩
theorem F_206_41 : F 206 41 (.getfield 25) 44 := ⟨3, by decide +kernel, rfl, rfl⟩
theorem F_206_44 : F 206 44 (.iload_n 3) 45 := ⟨1, by decide +kernel, rfl, rfl⟩
theorem F_206_45 : F 206 45 (.aload_n 0) 46 := ⟨1, by decide +kernel, rfl, rfl⟩
theorem F_206_46 : F 206 46 (.getfield 25) 49 := ⟨3, by decide +kernel, rfl, rfl⟩
theorem F_206_49 : F 206 49 (.iload_n 3) 50 := ⟨1, by decide +kernel, rfl, rfl⟩
theorem F_206_50 : F 206 50 (.iaload) 51 := ⟨1, by decide +kernel, rfl, rfl⟩
theorem F_206_51 : F 206 51 (.aload_n 0) 52 := ⟨1, by decide +kernel, rfl, rfl⟩
theorem F_206_52 : F 206 52 (.iload_n 2) 53 := ⟨1, by decide +kernel, rfl, rfl⟩
theorem F_206_53 : F 206 53 (.iload_n 1) 54 := ⟨1, by decide +kernel, rfl, rfl⟩
theorem F_206_54 : F 206 54 (.iconst 4) 55 := ⟨1, by decide +kernel, rfl, rfl⟩
theorem F_206_55 : F 206 55 (.irem) 56 := ⟨1, by decide +kernel, rfl, rfl⟩
theorem F_206_56 : F 206 56 (.invokevirtual 159) 59 := ⟨3, by decide +kernel, rfl, rfl⟩
theorem F_206_59 : F 206 59 (.iadd) 60 := ⟨1, by decide +kernel, rfl, rfl⟩
theorem F_206_60 : F 206 60 (.invokestatic 179) 63 := ⟨3, by decide +kernel, rfl, rfl⟩
theorem il_6_179 : ilq 6 179 1 207 1 = true := by decide +kernel
theorem F_206_63 : F 206 63 (.iastore) 64 := ⟨1, by decide +kernel, rfl, rfl⟩
theorem F_206_64 : F 206 64 (.aload_n 0) 65 := ⟨1, by decide +kernel, rfl, rfl⟩
theorem F_206_65 : F 206 65 (.getfield 25) 68 := ⟨3, by decide +kernel, rfl, rfl⟩
theorem F_206_68 : F 206 68 (.iconst 1) 69 := ⟨1, by decide +kernel, rfl, rfl⟩
theorem F_206_69 : F 206 69 (.dup2) 70 := ⟨1, by decide +kernel, rfl, rfl⟩
theorem F_206_70 : F 206 70 (.iaload) 71 := ⟨1, by decide +kernel, rfl, rfl⟩
theorem F_206_71 : F 206 71 (.iconst 1) 72 := ⟨1, by decide +kernel, rfl, rfl⟩
theorem F_206_72 : F 206 72 (.isub) 73 := ⟨1, by decide +kernel, rfl, rfl⟩
theorem F_206_73 : F 206 73 (.iastore) 74 := ⟨1, by decide +kernel, rfl, rfl⟩
theorem F_206_74 : F 206 74 (.aload_n 0) 75 := ⟨1, by decide +kernel, rfl, rfl⟩
theorem F_206_75 : F 206 75 (.getfield 25) 78 := ⟨3, by decide +kernel, rfl, rfl⟩
theorem F_206_78 : F 206 78 (.iconst 4) 79 := ⟨1, by decide +kernel, rfl, rfl⟩
theorem F_206_79 : F 206 79 (.dup2) 80 := ⟨1, by decide +kernel, rfl, rfl⟩
theorem F_206_80 : F 206 80 (.iaload) 81 := ⟨1, by decide +kernel, rfl, rfl⟩
theorem F_206_81 : F 206 81 (.iconst 1) 82 := ⟨1, by decide +kernel, rfl, rfl⟩
theorem F_206_82 : F 206 82 (.iadd) 83 := ⟨1, by decide +kernel, rfl, rfl⟩
theorem F_206_83 : F 206 83 (.iastore) 84 := ⟨1, by decide +kernel, rfl, rfl⟩
theorem F_206_84 : F 206 84 (.aload_n 0) 85 := ⟨1, by decide +kernel, rfl, rfl⟩
theorem F_206_85 : F 206 85 (.getfield 25) 88 := ⟨3, by decide +kernel, rfl, rfl⟩
theorem F_206_88 : F 206 88 (.iload_n 3) 89 := ⟨1, by decide +kernel, rfl, rfl⟩
theorem F_206_89 : F 206 89 (.iaload) 90 := ⟨1, by decide +kernel, rfl, rfl⟩
theorem F_206_90 : F 206 90 (.ireturn) 91 := ⟨1, by decide +kernel, rfl, rfl⟩
theorem rt_206 : m_r 206 = (some .int) := by decide +kernel
theorem n_210 : m_n 210 = 2 := by decide +kernel
theorem F_210_0 : F 210 0 (.aload_n 0) 1 := ⟨1, by decide +kernel, rfl, rfl⟩
theorem F_210_1 : F 210 1 (.getfield 25) 4 := ⟨3, by decide +kernel, rfl, rfl⟩
theorem o_210 : m_o 210 = 6 := by decide +kernel
theorem F_210_4 : F 210 4 (.iconst 1) 5 := ⟨1, by decide +kernel, rfl, rfl⟩
theorem F_210_5 : F 210 5 (.iaload) 6 := ⟨1, by decide +kernel, rfl, rfl⟩
theorem F_210_6 : F 210 6 (.istore_n 1) 7 := ⟨1, by decide +kernel, rfl, rfl⟩
theorem F_210_7 : F 210 7 (.aload_n 0) 8 := ⟨1, by decide +kernel, rfl, rfl⟩
theorem F_210_8 : F 210 8 (.iconst 2) 9 := ⟨1, by decide +kernel, rfl, rfl⟩
theorem F_210_9 : F 210 9 (.iload_n 1) 10 := ⟨1, by decide +kernel, rfl, rfl⟩
theorem F_210_10 : F 210 10 (.iconst 0) 11 := ⟨1, by decide +kernel, rfl, rfl⟩
theorem F_210_11 : F 210 11 (.iconst 0) 12 := ⟨1, by decide +kernel, rfl, rfl⟩
theorem F_210_12 : F 210 12 (.invokevirtual 171) 15 := ⟨3, by decide +kernel, rfl, rfl⟩
theorem F_210_15 : F 210 15 (.aload_n 0) 16 := ⟨1, by decide +kernel, rfl, rfl⟩
theorem F_210_16 : F 210 16 (.getfield 25) 19 := ⟨3, by decide +kernel, rfl, rfl⟩
theorem F_210_19 : F 210 19 (.iconst 1) 20 := ⟨1, by decide +kernel, rfl, rfl⟩
theorem F_210_20 : F 210 20 (.aload_n 0) 21 := ⟨1, by decide +kernel, rfl, rfl⟩
theorem F_210_21 : F 210 21 (.getfield 25) 24 := ⟨3, by decide +kernel, rfl, rfl⟩
theorem F_210_24 : F 210 24 (.iconst 2) 25 := ⟨1, by decide +kernel, rfl, rfl⟩
theorem F_210_25 : F 210 25 (.iaload) 26 := ⟨1, by decide +kernel, rfl, rfl⟩
theorem F_210_26 : F 210 26 (.iastore) 27 := ⟨1, by decide +kernel, rfl, rfl⟩
theorem F_210_27 : F 210 27 (.iload_n 1) 28 := ⟨1, by decide +kernel, rfl, rfl⟩
theorem F_210_28 : F 210 28 (.ireturn) 29 := ⟨1, by decide +kernel, rfl, rfl⟩
theorem rt_210 : m_r 210 = (some .int) := by decide +kernel
theorem n_212 : m_n 212 = 2 := by decide +kernel
theorem F_212_0 : F 212 0 (.aload_n 0) 1 := ⟨1, by decide +kernel, rfl, rfl⟩
theorem F_212_1 : F 212 1 (.getfield 25) 4 := ⟨3, by decide +kernel, rfl, rfl⟩
theorem o_212 : m_o 212 = 6 := by decide +kernel
theorem F_212_4 : F 212 4 (.iload_n 1) 5 := ⟨1, by decide +kernel, rfl, rfl⟩
theorem F_212_5 : F 212 5 (.iaload) 6 := ⟨1, by decide +kernel, rfl, rfl⟩
theorem F_212_6 : F 212 6 (.ifCond .ne 35) 9 := ⟨3, by decide +kernel, rfl, rfl⟩
theorem F_212_41 : F 212 41 (.aload_n 0) 42 := ⟨1, by decide +kernel, rfl, rfl⟩
theorem F_212_42 : F 212 42 (.getfield 25) 45 := ⟨3, by decide +kernel, rfl, rfl⟩
theorem F_212_45 : F 212 45 (.iload_n 1) 46 := ⟨1, by decide +kernel, rfl, rfl⟩
theorem F_212_46 : F 212 46 (.iaload) 47 := ⟨1, by decide +kernel, rfl, rfl⟩
theorem F_212_47 : F 212 47 (.iconst 1) 48 := ⟨1, by decide +kernel, rfl, rfl⟩
theorem F_212_48 : F 212 48 (.if_icmp .ne 47) 51 := ⟨3, by decide +kernel, rfl, rfl⟩
theorem F_212_95 : F 212 95 (.aload_n 0) 96 := ⟨1, by decide +kernel, rfl, rfl⟩
theorem F_212_96 : F 212 96 (.getfield 25) 99 := ⟨3, by decide +kernel, rfl, rfl⟩
theorem F_212_99 : F 212 99 (.iconst 1) 100 := ⟨1, by decide +kernel, rfl, rfl⟩
theorem F_212_100 : F 212 100 (.aload_n 0) 101 := ⟨1, by decide +kernel, rfl, rfl⟩
theorem F_212_101 : F 212 101 (.getfield 25) 104 := ⟨3, by decide +kernel, rfl, rfl⟩
theorem F_212_104 : F 212 104 (.iload_n 1) 105 := ⟨1, by decide +kernel, rfl, rfl⟩
theorem F_212_105 : F 212 105 (.iconst 1) 106 := ⟨1, by decide +kernel, rfl, rfl⟩
theorem F_212_106 : F 212 106 (.iadd) 107 := ⟨1, by decide +kernel, rfl, rfl⟩
theorem F_212_107 : F 212 107 (.iaload) 108 := ⟨1, by decide +kernel, rfl, rfl⟩
theorem F_212_108 : F 212 108 (.iastore) 109 := ⟨1, by decide +kernel, rfl, rfl⟩
theorem F_212_109 : F 212 109 (.return_) 110 := ⟨1, by decide +kernel, rfl, rfl⟩
theorem rt_212 : m_r 212 = none := by decide +kernel
theorem F_212_51 : F 212 51 (.aload_n 0) 52 := ⟨1, by decide +kernel, rfl, rfl⟩
theorem F_212_52 : F 212 52 (.getfield 25) 55 := ⟨3, by decide +kernel, rfl, rfl⟩
theorem F_212_55 : F 212 55 (.aload_n 0) 56 := ⟨1, by decide +kernel, rfl, rfl⟩
theorem F_212_56 : F 212 56 (.getfield 25) 59 := ⟨3, by decide +kernel, rfl, rfl⟩
theorem F_212_59 : F 212 59 (.iload_n 1) 60 := ⟨1, by decide +kernel, rfl, rfl⟩
theorem F_212_60 : F 212 60 (.iconst 1) 61 := ⟨1, by decide +kernel, rfl, rfl⟩
theorem F_212_61 : F 212 61 (.iadd) 62 := ⟨1, by decide +kernel, rfl, rfl⟩
theorem F_212_62 : F 212 62 (.iaload) 63 := ⟨1, by decide +kernel, rfl, rfl⟩
theorem F_212_63 : F 212 63 (.aload_n 0) 64 := ⟨1, by decide +kernel, rfl, rfl⟩
theorem F_212_64 : F 212 64 (.getfield 25) 67 := ⟨3, by decide +kernel, rfl, rfl⟩
theorem F_212_67 : F 212 67 (.iload_n 1) 68 := ⟨1, by decide +kernel, rfl, rfl⟩
theorem F_212_68 : F 212 68 (.iconst 2) 69 := ⟨1, by decide +kernel, rfl, rfl⟩
theorem F_212_69 : F 212 69 (.iadd) 70 := ⟨1, by decide +kernel, rfl, rfl⟩
theorem F_212_70 : F 212 70 (.iaload) 71 := ⟨1, by decide +kernel, rfl, rfl⟩
theorem F_212_71 : F 212 71 (.iastore) 72 := ⟨1, by decide +kernel, rfl, rfl⟩
theorem F_212_72 : F 212 72 (.aload_n 0) 73 := ⟨1, by decide +kernel, rfl, rfl⟩
theorem F_212_73 : F 212 73 (.getfield 25) 76 := ⟨3, by decide +kernel, rfl, rfl⟩
theorem F_212_76 : F 212 76 (.iconst 1) 77 := ⟨1, by decide +kernel, rfl, rfl⟩
theorem F_212_77 : F 212 77 (.dup2) 78 := ⟨1, by decide +kernel, rfl, rfl⟩
theorem F_212_78 : F 212 78 (.iaload) 79 := ⟨1, by decide +kernel, rfl, rfl⟩
theorem F_212_79 : F 212 79 (.iconst 1) 80 := ⟨1, by decide +kernel, rfl, rfl⟩
theorem F_212_80 : F 212 80 (.iadd) 81 := ⟨1, by decide +kernel, rfl, rfl⟩
theorem F_212_81 : F 212 81 (.iastore) 82 := ⟨1, by decide +kernel, rfl, rfl⟩
theorem F_212_82 : F 212 82 (.aload_n 0) 83 := ⟨1, by decide +kernel, rfl, rfl⟩
theorem F_212_83 : F 212 83 (.getfield 25) 86 := ⟨3, by decide +kernel, rfl, rfl⟩
theorem F_212_86 : F 212 86 (.iconst 4) 87 := ⟨1, by decide +kernel, rfl, rfl⟩
theorem F_212_87 : F 212 87 (.dup2) 88 := ⟨1, by decide +kernel, rfl, rfl⟩
theorem F_212_88 : F 212 88 (.iaload) 89 := ⟨1, by decide +kernel, rfl, rfl⟩
theorem F_212_89 : F 212 89 (.iconst 1) 90 := ⟨1, by decide +kernel, rfl, rfl⟩
theorem F_212_90 : F 212 90 (.isub) 91 := ⟨1, by decide +kernel, rfl, rfl⟩
theorem F_212_91 : F 212 91 (.iastore) 92 := ⟨1, by decide +kernel, rfl, rfl⟩
theorem F_212_92 : F 212 92 (.goto 17) 95 := ⟨3, by decide +kernel, rfl, rfl⟩
theorem F_212_9 : F 212 9 (.aload_n 0) 10 := ⟨1, by decide +kernel, rfl, rfl⟩
theorem F_212_10 : F 212 10 (.getfield 25) 13 := ⟨3, by decide +kernel, rfl, rfl⟩
theorem F_212_13 : F 212 13 (.iconst 5) 14 := ⟨1, by decide +kernel, rfl, rfl⟩
theorem F_212_14 : F 212 14 (.aload_n 0) 15 := ⟨1, by decide +kernel, rfl, rfl⟩
theorem F_212_15 : F 212 15 (.getfield 25) 18 := ⟨3, by decide +kernel, rfl, rfl⟩
theorem F_212_18 : F 212 18 (.iload_n 1) 19 := ⟨1, by decide +kernel, rfl, rfl⟩
theorem F_212_19 : F 212 19 (.iconst 1) 20 := ⟨1, by decide +kernel, rfl, rfl⟩
theorem F_212_20 : F 212 20 (.iadd) 21 := ⟨1, by decide +kernel, rfl, rfl⟩
theorem F_212_21 : F 212 21 (.iaload) 22 := ⟨1, by decide +kernel, rfl, rfl⟩
theorem F_212_22 : F 212 22 (.iastore) 23 := ⟨1, by decide +kernel, rfl, rfl⟩
theorem F_212_23 : F 212 23 (.aload_n 0) 24 := ⟨1, by decide +kernel, rfl, rfl⟩
theorem F_212_24 : F 212 24 (.getfield 25) 27 := ⟨3, by decide +kernel, rfl, rfl⟩
theorem F_212_27 : F 212 27 (.bipush 6) 29 := ⟨2, by decide +kernel, rfl, rfl⟩
theorem F_212_29 : F 212 29 (.aload_n 0) 30 := ⟨1, by decide +kernel, rfl, rfl⟩
theorem F_212_30 : F 212 30 (.getfield 25) 33 := ⟨3, by decide +kernel, rfl, rfl⟩
theorem F_212_33 : F 212 33 (.iload_n 1) 34 := ⟨1, by decide +kernel, rfl, rfl⟩
theorem F_212_34 : F 212 34 (.iconst 2) 35 := ⟨1, by decide +kernel, rfl, rfl⟩
theorem F_212_35 : F 212 35 (.iadd) 36 := ⟨1, by decide +kernel, rfl, rfl⟩
theorem F_212_36 : F 212 36 (.iaload) 37 := ⟨1, by decide +kernel, rfl, rfl⟩
theorem F_212_37 : F 212 37 (.iastore) 38 := ⟨1, by decide +kernel, rfl, rfl⟩
theorem F_212_38 : F 212 38 (.goto 71) 41 := ⟨3, by decide +kernel, rfl, rfl⟩
theorem t_X6_says {X : List Int32} {d : Nat} {s : m_St} {P : Option Value → m_St → Prop} {z : Int} (z0 : 0 ≤ z) (z8 : z < 8)
    (l1 : inR z)
    (l2 : 0 ≤ (6 - (z / 4)))
    (l3 : (6 - (z / 4)) < 198)
    (l4 : 0 ≤ (((8 + (5 * ((s 83 (6 - (z / 4))) - 1))) + 1) + (z % 4)))
    (l5 : (((8 + (5 * ((s 83 (6 - (z / 4))) - 1))) + 1) + (z % 4)) < 198)
    (l6 : 0 ≤ s 83 3)
    (l7 : s 83 3 < 40)
    (l8 : mok (nts s 1 (((8 + (5 * ((s 83 (6 - (z / 4))) - 1))) + 1) + (z % 4)) (s 83 (((8 + (5 * ((s 83 (6 - (z / 4))) - 1))) + 1) + (z % 4))) 0))
    (l9 : 0 ≤ ((s 83 (6 - (z / 4))) - 1))
    (l10 : ((s 83 (6 - (z / 4))) - 1) < ((nts s 1 (((8 + (5 * ((s 83 (6 - (z / 4))) - 1))) + 1) + (z % 4)) (s 83 (((8 + (5 * ((s 83 (6 - (z / 4))) - 1))) + 1) + (z % 4))) 0) 83 0))
    (l11 : 0 ≤ (z % 4))
    (l12 : (z % 4) < 4)
    (l13 : inR (((nts s 1 (((8 + (5 * ((s 83 (6 - (z / 4))) - 1))) + 1) + (z % 4)) (s 83 (((8 + (5 * ((s 83 (6 - (z / 4))) - 1))) + 1) + (z % 4))) 0) 83 (((8 + (5 * ((s 83 (6 - (z / 4))) - 1))) + 1) + (z % 4))) + (mv ((nts s 1 (((8 + (5 * ((s 83 (6 - (z / 4))) - 1))) + 1) + (z % 4)) (s 83 (((8 + (5 * ((s 83 (6 - (z / 4))) - 1))) + 1) + (z % 4))) 0) 83 (8 + 5 * ((s 83 (6 - (z / 4))) - 1))) (hld ((nts s 1 (((8 + (5 * ((s 83 (6 - (z / 4))) - 1))) + 1) + (z % 4)) (s 83 (((8 + (5 * ((s 83 (6 - (z / 4))) - 1))) + 1) + (z % 4))) 0) 83) ((s 83 (6 - (z / 4))) - 1)) ((nts s 1 (((8 + (5 * ((s 83 (6 - (z / 4))) - 1))) + 1) + (z % 4)) (s 83 (((8 + (5 * ((s 83 (6 - (z / 4))) - 1))) + 1) + (z % 4))) 0) 38 5) (z % 4))))
    (l14 : P (some (vI ((m_upd (m_upd (m_upd (nts s 1 (((8 + (5 * ((s 83 (6 - (z / 4))) - 1))) + 1) + (z % 4)) (s 83 (((8 + (5 * ((s 83 (6 - (z / 4))) - 1))) + 1) + (z % 4))) 0) 83 (((8 + (5 * ((s 83 (6 - (z / 4))) - 1))) + 1) + (z % 4)) (cl (((nts s 1 (((8 + (5 * ((s 83 (6 - (z / 4))) - 1))) + 1) + (z % 4)) (s 83 (((8 + (5 * ((s 83 (6 - (z / 4))) - 1))) + 1) + (z % 4))) 0) 83 (((8 + (5 * ((s 83 (6 - (z / 4))) - 1))) + 1) + (z % 4))) + (mv ((nts s 1 (((8 + (5 * ((s 83 (6 - (z / 4))) - 1))) + 1) + (z % 4)) (s 83 (((8 + (5 * ((s 83 (6 - (z / 4))) - 1))) + 1) + (z % 4))) 0) 83 (8 + 5 * ((s 83 (6 - (z / 4))) - 1))) (hld ((nts s 1 (((8 + (5 * ((s 83 (6 - (z / 4))) - 1))) + 1) + (z % 4)) (s 83 (((8 + (5 * ((s 83 (6 - (z / 4))) - 1))) + 1) + (z % 4))) 0) 83) ((s 83 (6 - (z / 4))) - 1)) ((nts s 1 (((8 + (5 * ((s 83 (6 - (z / 4))) - 1))) + 1) + (z % 4)) (s 83 (((8 + (5 * ((s 83 (6 - (z / 4))) - 1))) + 1) + (z % 4))) 0) 38 5) (z % 4))))) 83 1 (((m_upd (nts s 1 (((8 + (5 * ((s 83 (6 - (z / 4))) - 1))) + 1) + (z % 4)) (s 83 (((8 + (5 * ((s 83 (6 - (z / 4))) - 1))) + 1) + (z % 4))) 0) 83 (((8 + (5 * ((s 83 (6 - (z / 4))) - 1))) + 1) + (z % 4)) (cl (((nts s 1 (((8 + (5 * ((s 83 (6 - (z / 4))) - 1))) + 1) + (z % 4)) (s 83 (((8 + (5 * ((s 83 (6 - (z / 4))) - 1))) + 1) + (z % 4))) 0) 83 (((8 + (5 * ((s 83 (6 - (z / 4))) - 1))) + 1) + (z % 4))) + (mv ((nts s 1 (((8 + (5 * ((s 83 (6 - (z / 4))) - 1))) + 1) + (z % 4)) (s 83 (((8 + (5 * ((s 83 (6 - (z / 4))) - 1))) + 1) + (z % 4))) 0) 83 (8 + 5 * ((s 83 (6 - (z / 4))) - 1))) (hld ((nts s 1 (((8 + (5 * ((s 83 (6 - (z / 4))) - 1))) + 1) + (z % 4)) (s 83 (((8 + (5 * ((s 83 (6 - (z / 4))) - 1))) + 1) + (z % 4))) 0) 83) ((s 83 (6 - (z / 4))) - 1)) ((nts s 1 (((8 + (5 * ((s 83 (6 - (z / 4))) - 1))) + 1) + (z % 4)) (s 83 (((8 + (5 * ((s 83 (6 - (z / 4))) - 1))) + 1) + (z % 4))) 0) 38 5) (z % 4))))) 83 1) - 1)) 83 4 (((m_upd (nts s 1 (((8 + (5 * ((s 83 (6 - (z / 4))) - 1))) + 1) + (z % 4)) (s 83 (((8 + (5 * ((s 83 (6 - (z / 4))) - 1))) + 1) + (z % 4))) 0) 83 (((8 + (5 * ((s 83 (6 - (z / 4))) - 1))) + 1) + (z % 4)) (cl (((nts s 1 (((8 + (5 * ((s 83 (6 - (z / 4))) - 1))) + 1) + (z % 4)) (s 83 (((8 + (5 * ((s 83 (6 - (z / 4))) - 1))) + 1) + (z % 4))) 0) 83 (((8 + (5 * ((s 83 (6 - (z / 4))) - 1))) + 1) + (z % 4))) + (mv ((nts s 1 (((8 + (5 * ((s 83 (6 - (z / 4))) - 1))) + 1) + (z % 4)) (s 83 (((8 + (5 * ((s 83 (6 - (z / 4))) - 1))) + 1) + (z % 4))) 0) 83 (8 + 5 * ((s 83 (6 - (z / 4))) - 1))) (hld ((nts s 1 (((8 + (5 * ((s 83 (6 - (z / 4))) - 1))) + 1) + (z % 4)) (s 83 (((8 + (5 * ((s 83 (6 - (z / 4))) - 1))) + 1) + (z % 4))) 0) 83) ((s 83 (6 - (z / 4))) - 1)) ((nts s 1 (((8 + (5 * ((s 83 (6 - (z / 4))) - 1))) + 1) + (z % 4)) (s 83 (((8 + (5 * ((s 83 (6 - (z / 4))) - 1))) + 1) + (z % 4))) 0) 38 5) (z % 4))))) 83 4) + 1)) 83 (((8 + (5 * ((s 83 (6 - (z / 4))) - 1))) + 1) + (z % 4))))) (m_upd (m_upd (m_upd (nts s 1 (((8 + (5 * ((s 83 (6 - (z / 4))) - 1))) + 1) + (z % 4)) (s 83 (((8 + (5 * ((s 83 (6 - (z / 4))) - 1))) + 1) + (z % 4))) 0) 83 (((8 + (5 * ((s 83 (6 - (z / 4))) - 1))) + 1) + (z % 4)) (cl (((nts s 1 (((8 + (5 * ((s 83 (6 - (z / 4))) - 1))) + 1) + (z % 4)) (s 83 (((8 + (5 * ((s 83 (6 - (z / 4))) - 1))) + 1) + (z % 4))) 0) 83 (((8 + (5 * ((s 83 (6 - (z / 4))) - 1))) + 1) + (z % 4))) + (mv ((nts s 1 (((8 + (5 * ((s 83 (6 - (z / 4))) - 1))) + 1) + (z % 4)) (s 83 (((8 + (5 * ((s 83 (6 - (z / 4))) - 1))) + 1) + (z % 4))) 0) 83 (8 + 5 * ((s 83 (6 - (z / 4))) - 1))) (hld ((nts s 1 (((8 + (5 * ((s 83 (6 - (z / 4))) - 1))) + 1) + (z % 4)) (s 83 (((8 + (5 * ((s 83 (6 - (z / 4))) - 1))) + 1) + (z % 4))) 0) 83) ((s 83 (6 - (z / 4))) - 1)) ((nts s 1 (((8 + (5 * ((s 83 (6 - (z / 4))) - 1))) + 1) + (z % 4)) (s 83 (((8 + (5 * ((s 83 (6 - (z / 4))) - 1))) + 1) + (z % 4))) 0) 38 5) (z % 4))))) 83 1 (((m_upd (nts s 1 (((8 + (5 * ((s 83 (6 - (z / 4))) - 1))) + 1) + (z % 4)) (s 83 (((8 + (5 * ((s 83 (6 - (z / 4))) - 1))) + 1) + (z % 4))) 0) 83 (((8 + (5 * ((s 83 (6 - (z / 4))) - 1))) + 1) + (z % 4)) (cl (((nts s 1 (((8 + (5 * ((s 83 (6 - (z / 4))) - 1))) + 1) + (z % 4)) (s 83 (((8 + (5 * ((s 83 (6 - (z / 4))) - 1))) + 1) + (z % 4))) 0) 83 (((8 + (5 * ((s 83 (6 - (z / 4))) - 1))) + 1) + (z % 4))) + (mv ((nts s 1 (((8 + (5 * ((s 83 (6 - (z / 4))) - 1))) + 1) + (z % 4)) (s 83 (((8 + (5 * ((s 83 (6 - (z / 4))) - 1))) + 1) + (z % 4))) 0) 83 (8 + 5 * ((s 83 (6 - (z / 4))) - 1))) (hld ((nts s 1 (((8 + (5 * ((s 83 (6 - (z / 4))) - 1))) + 1) + (z % 4)) (s 83 (((8 + (5 * ((s 83 (6 - (z / 4))) - 1))) + 1) + (z % 4))) 0) 83) ((s 83 (6 - (z / 4))) - 1)) ((nts s 1 (((8 + (5 * ((s 83 (6 - (z / 4))) - 1))) + 1) + (z % 4)) (s 83 (((8 + (5 * ((s 83 (6 - (z / 4))) - 1))) + 1) + (z % 4))) 0) 38 5) (z % 4))))) 83 1) - 1)) 83 4 (((m_upd (nts s 1 (((8 + (5 * ((s 83 (6 - (z / 4))) - 1))) + 1) + (z % 4)) (s 83 (((8 + (5 * ((s 83 (6 - (z / 4))) - 1))) + 1) + (z % 4))) 0) 83 (((8 + (5 * ((s 83 (6 - (z / 4))) - 1))) + 1) + (z % 4)) (cl (((nts s 1 (((8 + (5 * ((s 83 (6 - (z / 4))) - 1))) + 1) + (z % 4)) (s 83 (((8 + (5 * ((s 83 (6 - (z / 4))) - 1))) + 1) + (z % 4))) 0) 83 (((8 + (5 * ((s 83 (6 - (z / 4))) - 1))) + 1) + (z % 4))) + (mv ((nts s 1 (((8 + (5 * ((s 83 (6 - (z / 4))) - 1))) + 1) + (z % 4)) (s 83 (((8 + (5 * ((s 83 (6 - (z / 4))) - 1))) + 1) + (z % 4))) 0) 83 (8 + 5 * ((s 83 (6 - (z / 4))) - 1))) (hld ((nts s 1 (((8 + (5 * ((s 83 (6 - (z / 4))) - 1))) + 1) + (z % 4)) (s 83 (((8 + (5 * ((s 83 (6 - (z / 4))) - 1))) + 1) + (z % 4))) 0) 83) ((s 83 (6 - (z / 4))) - 1)) ((nts s 1 (((8 + (5 * ((s 83 (6 - (z / 4))) - 1))) + 1) + (z % 4)) (s 83 (((8 + (5 * ((s 83 (6 - (z / 4))) - 1))) + 1) + (z % 4))) 0) 38 5) (z % 4))))) 83 4) + 1)))
    : Cl X (d + 4) 206 [vR 77, vI z] s P := by
  refine Cl_of n_206 rfl ?_
  show Rn _ _ _ _ [some (vR 77), some (vI z), none, none] [] _ _
  refine r_ldR_n (m := 0) F_206_0 rfl ?_
  refine r_getR (J := 5) F_206_1 o_206 fl_6_25 ty_77 (by decide) rfl (kd2 kd_77_5 (by decide)) (kd9 kd_77_5 (by decide)) rf_77_5 ?_
  refine r_bipush F_206_4 bi_6 ?_
  refine r_ldI_n (m := 1) F_206_6 rfl ?_
  refine r_iconst F_206_7 ?_
  refine r_idiv F_206_8 l1 z0 (by decide) (by decide) ?_
  refine r_isub F_206_9 rfl ?_
  refine r_iald (e := (s 83 (6 - (z / 4)))) F_206_10 ty_83 l2 (lt_ln ln_83 l3) rfl ?_
  refine r_iconst F_206_11 ?_
  refine r_isub F_206_12 rfl ?_
  refine r_stI_n (m := 2) (L' := [some (vR 77), some (vI z), some (vI ((s 83 (6 - (z / 4))) - 1)), none]) F_206_13 rfl rfl ?_
  refine r_bipush F_206_14 bi_8 ?_
  refine r_iconst F_206_16 ?_
  refine r_ldI_n (m := 2) F_206_17 rfl ?_
  refine r_imul F_206_18 rfl ?_
  refine r_iadd F_206_19 rfl ?_
  refine r_iconst F_206_20 ?_
  refine r_iadd F_206_21 rfl ?_
  refine r_ldI_n (m := 1) F_206_22 rfl ?_
  refine r_iconst F_206_23 ?_
  refine r_irem F_206_24 l1 z0 (by decide) (by decide) ?_
  refine r_iadd F_206_25 rfl ?_
  refine r_stI_n (m := 3) (L' := [some (vR 77), some (vI z), some (vI ((s 83 (6 - (z / 4))) - 1)), some (vI (((8 + (5 * ((s 83 (6 - (z / 4))) - 1))) + 1) + (z % 4)))]) F_206_26 rfl rfl ?_
  refine r_ldR_n (m := 0) F_206_27 rfl ?_
  refine r_iconst F_206_28 ?_
  refine r_ldI_n (m := 3) F_206_29 rfl ?_
  refine r_ldR_n (m := 0) F_206_30 rfl ?_
  refine r_getR (J := 5) F_206_31 o_206 fl_6_25 ty_77 (by decide) rfl (kd2 kd_77_5 (by decide)) (kd9 kd_77_5 (by decide)) rf_77_5 ?_
  refine r_ldI_n (m := 3) F_206_34 rfl ?_
  refine r_iald (e := (s 83 (((8 + (5 * ((s 83 (6 - (z / 4))) - 1))) + 1) + (z % 4)))) F_206_35 ty_83 l4 (lt_ln ln_83 l5) rfl ?_
  refine r_iconst F_206_36 ?_
  refine r_virt2 (A := [vI 1, vI (((8 + (5 * ((s 83 (6 - (z / 4))) - 1))) + 1) + (z % 4)), vI (s 83 (((8 + (5 * ((s 83 (6 - (z / 4))) - 1))) + 1) + (z % 4))), vI 0]) (r := []) (n := 4) F_206_37 o_206 il_6_171 rfl rfl rfl rfl ty_77 vy_200 (lay_le n_200 rfl) ?_
  refine sp_notes l6 l7 ?_
  show Rn _ _ _ _ _ [] _ _
  refine r_ldR_n (m := 0) F_206_40 rfl ?_
  refine r_getR (J := 5) F_206_41 o_206 fl_6_25 ty_77 (by decide) rfl (kd2 kd_77_5 (by decide)) (kd9 kd_77_5 (by decide)) rf_77_5 ?_
  refine r_ldI_n (m := 3) F_206_44 rfl ?_
  refine r_ldR_n (m := 0) F_206_45 rfl ?_
  refine r_getR (J := 5) F_206_46 o_206 fl_6_25 ty_77 (by decide) rfl (kd2 kd_77_5 (by decide)) (kd9 kd_77_5 (by decide)) rf_77_5 ?_
  refine r_ldI_n (m := 3) F_206_49 rfl ?_
  refine r_iald (e := ((nts s 1 (((8 + (5 * ((s 83 (6 - (z / 4))) - 1))) + 1) + (z % 4)) (s 83 (((8 + (5 * ((s 83 (6 - (z / 4))) - 1))) + 1) + (z % 4))) 0) 83 (((8 + (5 * ((s 83 (6 - (z / 4))) - 1))) + 1) + (z % 4)))) F_206_50 ty_83 l4 (lt_ln ln_83 l5) rfl ?_
  refine r_ldR_n (m := 0) F_206_51 rfl ?_
  refine r_ldI_n (m := 2) F_206_52 rfl ?_
  refine r_ldI_n (m := 1) F_206_53 rfl ?_
  refine r_iconst F_206_54 ?_
  refine r_irem F_206_55 l1 z0 (by decide) (by decide) ?_
  refine r_virt2 (A := [vI ((s 83 (6 - (z / 4))) - 1), vI (z % 4)]) (r := [vI ((nts s 1 (((8 + (5 * ((s 83 (6 - (z / 4))) - 1))) + 1) + (z % 4)) (s 83 (((8 + (5 * ((s 83 (6 - (z / 4))) - 1))) + 1) + (z % 4))) 0) 83 (((8 + (5 * ((s 83 (6 - (z / 4))) - 1))) + 1) + (z % 4))), vI (((8 + (5 * ((s 83 (6 - (z / 4))) - 1))) + 1) + (z % 4)), vR 83]) (n := 2) F_206_56 o_206 il_6_159 rfl rfl rfl rfl ty_77 vy_192 (lay_le n_192 rfl) ?_
  refine sp_movedOf l8 l9 l10 l11 l12 ?_
  show Rn _ _ _ _ _ [vI (mv ((nts s 1 (((8 + (5 * ((s 83 (6 - (z / 4))) - 1))) + 1) + (z % 4)) (s 83 (((8 + (5 * ((s 83 (6 - (z / 4))) - 1))) + 1) + (z % 4))) 0) 83 (8 + 5 * ((s 83 (6 - (z / 4))) - 1))) (hld ((nts s 1 (((8 + (5 * ((s 83 (6 - (z / 4))) - 1))) + 1) + (z % 4)) (s 83 (((8 + (5 * ((s 83 (6 - (z / 4))) - 1))) + 1) + (z % 4))) 0) 83) ((s 83 (6 - (z / 4))) - 1)) ((nts s 1 (((8 + (5 * ((s 83 (6 - (z / 4))) - 1))) + 1) + (z % 4)) (s 83 (((8 + (5 * ((s 83 (6 - (z / 4))) - 1))) + 1) + (z % 4))) 0) 38 5) (z % 4)), vI ((nts s 1 (((8 + (5 * ((s 83 (6 - (z / 4))) - 1))) + 1) + (z % 4)) (s 83 (((8 + (5 * ((s 83 (6 - (z / 4))) - 1))) + 1) + (z % 4))) 0) 83 (((8 + (5 * ((s 83 (6 - (z / 4))) - 1))) + 1) + (z % 4))), vI (((8 + (5 * ((s 83 (6 - (z / 4))) - 1))) + 1) + (z % 4)), vR 83] _ _
  refine r_iadd F_206_59 rfl ?_
  refine r_stat2 (A := [vI (((nts s 1 (((8 + (5 * ((s 83 (6 - (z / 4))) - 1))) + 1) + (z % 4)) (s 83 (((8 + (5 * ((s 83 (6 - (z / 4))) - 1))) + 1) + (z % 4))) 0) 83 (((8 + (5 * ((s 83 (6 - (z / 4))) - 1))) + 1) + (z % 4))) + (mv ((nts s 1 (((8 + (5 * ((s 83 (6 - (z / 4))) - 1))) + 1) + (z % 4)) (s 83 (((8 + (5 * ((s 83 (6 - (z / 4))) - 1))) + 1) + (z % 4))) 0) 83 (8 + 5 * ((s 83 (6 - (z / 4))) - 1))) (hld ((nts s 1 (((8 + (5 * ((s 83 (6 - (z / 4))) - 1))) + 1) + (z % 4)) (s 83 (((8 + (5 * ((s 83 (6 - (z / 4))) - 1))) + 1) + (z % 4))) 0) 83) ((s 83 (6 - (z / 4))) - 1)) ((nts s 1 (((8 + (5 * ((s 83 (6 - (z / 4))) - 1))) + 1) + (z % 4)) (s 83 (((8 + (5 * ((s 83 (6 - (z / 4))) - 1))) + 1) + (z % 4))) 0) 38 5) (z % 4)))]) (r := [vI (((8 + (5 * ((s 83 (6 - (z / 4))) - 1))) + 1) + (z % 4)), vR 83]) (n := 1) F_206_60 o_206 il_6_179 (by decide) rfl rfl rfl rfl (lay_le n_207 rfl) ?_
  refine sp_within l13 ?_
  show Rn _ _ _ _ _ [vI (cl (((nts s 1 (((8 + (5 * ((s 83 (6 - (z / 4))) - 1))) + 1) + (z % 4)) (s 83 (((8 + (5 * ((s 83 (6 - (z / 4))) - 1))) + 1) + (z % 4))) 0) 83 (((8 + (5 * ((s 83 (6 - (z / 4))) - 1))) + 1) + (z % 4))) + (mv ((nts s 1 (((8 + (5 * ((s 83 (6 - (z / 4))) - 1))) + 1) + (z % 4)) (s 83 (((8 + (5 * ((s 83 (6 - (z / 4))) - 1))) + 1) + (z % 4))) 0) 83 (8 + 5 * ((s 83 (6 - (z / 4))) - 1))) (hld ((nts s 1 (((8 + (5 * ((s 83 (6 - (z / 4))) - 1))) + 1) + (z % 4)) (s 83 (((8 + (5 * ((s 83 (6 - (z / 4))) - 1))) + 1) + (z % 4))) 0) 83) ((s 83 (6 - (z / 4))) - 1)) ((nts s 1 (((8 + (5 * ((s 83 (6 - (z / 4))) - 1))) + 1) + (z % 4)) (s 83 (((8 + (5 * ((s 83 (6 - (z / 4))) - 1))) + 1) + (z % 4))) 0) 38 5) (z % 4)))), vI (((8 + (5 * ((s 83 (6 - (z / 4))) - 1))) + 1) + (z % 4)), vR 83] _ _
  refine r_iast F_206_63 ty_83 l4 (lt_ln ln_83 l5) ?_
  refine r_ldR_n (m := 0) F_206_64 rfl ?_
  refine r_getR (J := 5) F_206_65 o_206 fl_6_25 ty_77 (by decide) rfl (kd2 kd_77_5 (by decide)) (kd9 kd_77_5 (by decide)) rf_77_5 ?_
  refine r_iconst F_206_68 ?_
  refine r_dup2 F_206_69 ?_
  refine r_iald (e := ((m_upd (nts s 1 (((8 + (5 * ((s 83 (6 - (z / 4))) - 1))) + 1) + (z % 4)) (s 83 (((8 + (5 * ((s 83 (6 - (z / 4))) - 1))) + 1) + (z % 4))) 0) 83 (((8 + (5 * ((s 83 (6 - (z / 4))) - 1))) + 1) + (z % 4)) (cl (((nts s 1 (((8 + (5 * ((s 83 (6 - (z / 4))) - 1))) + 1) + (z % 4)) (s 83 (((8 + (5 * ((s 83 (6 - (z / 4))) - 1))) + 1) + (z % 4))) 0) 83 (((8 + (5 * ((s 83 (6 - (z / 4))) - 1))) + 1) + (z % 4))) + (mv ((nts s 1 (((8 + (5 * ((s 83 (6 - (z / 4))) - 1))) + 1) + (z % 4)) (s 83 (((8 + (5 * ((s 83 (6 - (z / 4))) - 1))) + 1) + (z % 4))) 0) 83 (8 + 5 * ((s 83 (6 - (z / 4))) - 1))) (hld ((nts s 1 (((8 + (5 * ((s 83 (6 - (z / 4))) - 1))) + 1) + (z % 4)) (s 83 (((8 + (5 * ((s 83 (6 - (z / 4))) - 1))) + 1) + (z % 4))) 0) 83) ((s 83 (6 - (z / 4))) - 1)) ((nts s 1 (((8 + (5 * ((s 83 (6 - (z / 4))) - 1))) + 1) + (z % 4)) (s 83 (((8 + (5 * ((s 83 (6 - (z / 4))) - 1))) + 1) + (z % 4))) 0) 38 5) (z % 4))))) 83 1)) F_206_70 ty_83 (by decide) (lt_ln ln_83 (by decide)) rfl ?_
  refine r_iconst F_206_71 ?_
  refine r_isub F_206_72 rfl ?_
  refine r_iast F_206_73 ty_83 (by decide) (lt_ln ln_83 (by decide)) ?_
  refine r_ldR_n (m := 0) F_206_74 rfl ?_
  refine r_getR (J := 5) F_206_75 o_206 fl_6_25 ty_77 (by decide) rfl (kd2 kd_77_5 (by decide)) (kd9 kd_77_5 (by decide)) rf_77_5 ?_
  refine r_iconst F_206_78 ?_
  refine r_dup2 F_206_79 ?_
  refine r_iald (e := ((m_upd (nts s 1 (((8 + (5 * ((s 83 (6 - (z / 4))) - 1))) + 1) + (z % 4)) (s 83 (((8 + (5 * ((s 83 (6 - (z / 4))) - 1))) + 1) + (z % 4))) 0) 83 (((8 + (5 * ((s 83 (6 - (z / 4))) - 1))) + 1) + (z % 4)) (cl (((nts s 1 (((8 + (5 * ((s 83 (6 - (z / 4))) - 1))) + 1) + (z % 4)) (s 83 (((8 + (5 * ((s 83 (6 - (z / 4))) - 1))) + 1) + (z % 4))) 0) 83 (((8 + (5 * ((s 83 (6 - (z / 4))) - 1))) + 1) + (z % 4))) + (mv ((nts s 1 (((8 + (5 * ((s 83 (6 - (z / 4))) - 1))) + 1) + (z % 4)) (s 83 (((8 + (5 * ((s 83 (6 - (z / 4))) - 1))) + 1) + (z % 4))) 0) 83 (8 + 5 * ((s 83 (6 - (z / 4))) - 1))) (hld ((nts s 1 (((8 + (5 * ((s 83 (6 - (z / 4))) - 1))) + 1) + (z % 4)) (s 83 (((8 + (5 * ((s 83 (6 - (z / 4))) - 1))) + 1) + (z % 4))) 0) 83) ((s 83 (6 - (z / 4))) - 1)) ((nts s 1 (((8 + (5 * ((s 83 (6 - (z / 4))) - 1))) + 1) + (z % 4)) (s 83 (((8 + (5 * ((s 83 (6 - (z / 4))) - 1))) + 1) + (z % 4))) 0) 38 5) (z % 4))))) 83 4)) F_206_80 ty_83 (by decide) (lt_ln ln_83 (by decide)) (upd_nj (by decide)) ?_
  refine r_iconst F_206_81 ?_
  refine r_iadd F_206_82 rfl ?_
  refine r_iast F_206_83 ty_83 (by decide) (lt_ln ln_83 (by decide)) ?_
  refine r_ldR_n (m := 0) F_206_84 rfl ?_
  refine r_getR (J := 5) F_206_85 o_206 fl_6_25 ty_77 (by decide) rfl (kd2 kd_77_5 (by decide)) (kd9 kd_77_5 (by decide)) rf_77_5 ?_
  refine r_ldI_n (m := 3) F_206_88 rfl ?_
  refine r_iald (e := ((m_upd (m_upd (m_upd (nts s 1 (((8 + (5 * ((s 83 (6 - (z / 4))) - 1))) + 1) + (z % 4)) (s 83 (((8 + (5 * ((s 83 (6 - (z / 4))) - 1))) + 1) + (z % 4))) 0) 83 (((8 + (5 * ((s 83 (6 - (z / 4))) - 1))) + 1) + (z % 4)) (cl (((nts s 1 (((8 + (5 * ((s 83 (6 - (z / 4))) - 1))) + 1) + (z % 4)) (s 83 (((8 + (5 * ((s 83 (6 - (z / 4))) - 1))) + 1) + (z % 4))) 0) 83 (((8 + (5 * ((s 83 (6 - (z / 4))) - 1))) + 1) + (z % 4))) + (mv ((nts s 1 (((8 + (5 * ((s 83 (6 - (z / 4))) - 1))) + 1) + (z % 4)) (s 83 (((8 + (5 * ((s 83 (6 - (z / 4))) - 1))) + 1) + (z % 4))) 0) 83 (8 + 5 * ((s 83 (6 - (z / 4))) - 1))) (hld ((nts s 1 (((8 + (5 * ((s 83 (6 - (z / 4))) - 1))) + 1) + (z % 4)) (s 83 (((8 + (5 * ((s 83 (6 - (z / 4))) - 1))) + 1) + (z % 4))) 0) 83) ((s 83 (6 - (z / 4))) - 1)) ((nts s 1 (((8 + (5 * ((s 83 (6 - (z / 4))) - 1))) + 1) + (z % 4)) (s 83 (((8 + (5 * ((s 83 (6 - (z / 4))) - 1))) + 1) + (z % 4))) 0) 38 5) (z % 4))))) 83 1 (((m_upd (nts s 1 (((8 + (5 * ((s 83 (6 - (z / 4))) - 1))) + 1) + (z % 4)) (s 83 (((8 + (5 * ((s 83 (6 - (z / 4))) - 1))) + 1) + (z % 4))) 0) 83 (((8 + (5 * ((s 83 (6 - (z / 4))) - 1))) + 1) + (z % 4)) (cl (((nts s 1 (((8 + (5 * ((s 83 (6 - (z / 4))) - 1))) + 1) + (z % 4)) (s 83 (((8 + (5 * ((s 83 (6 - (z / 4))) - 1))) + 1) + (z % 4))) 0) 83 (((8 + (5 * ((s 83 (6 - (z / 4))) - 1))) + 1) + (z % 4))) + (mv ((nts s 1 (((8 + (5 * ((s 83 (6 - (z / 4))) - 1))) + 1) + (z % 4)) (s 83 (((8 + (5 * ((s 83 (6 - (z / 4))) - 1))) + 1) + (z % 4))) 0) 83 (8 + 5 * ((s 83 (6 - (z / 4))) - 1))) (hld ((nts s 1 (((8 + (5 * ((s 83 (6 - (z / 4))) - 1))) + 1) + (z % 4)) (s 83 (((8 + (5 * ((s 83 (6 - (z / 4))) - 1))) + 1) + (z % 4))) 0) 83) ((s 83 (6 - (z / 4))) - 1)) ((nts s 1 (((8 + (5 * ((s 83 (6 - (z / 4))) - 1))) + 1) + (z % 4)) (s 83 (((8 + (5 * ((s 83 (6 - (z / 4))) - 1))) + 1) + (z % 4))) 0) 38 5) (z % 4))))) 83 1) - 1)) 83 4 (((m_upd (nts s 1 (((8 + (5 * ((s 83 (6 - (z / 4))) - 1))) + 1) + (z % 4)) (s 83 (((8 + (5 * ((s 83 (6 - (z / 4))) - 1))) + 1) + (z % 4))) 0) 83 (((8 + (5 * ((s 83 (6 - (z / 4))) - 1))) + 1) + (z % 4)) (cl (((nts s 1 (((8 + (5 * ((s 83 (6 - (z / 4))) - 1))) + 1) + (z % 4)) (s 83 (((8 + (5 * ((s 83 (6 - (z / 4))) - 1))) + 1) + (z % 4))) 0) 83 (((8 + (5 * ((s 83 (6 - (z / 4))) - 1))) + 1) + (z % 4))) + (mv ((nts s 1 (((8 + (5 * ((s 83 (6 - (z / 4))) - 1))) + 1) + (z % 4)) (s 83 (((8 + (5 * ((s 83 (6 - (z / 4))) - 1))) + 1) + (z % 4))) 0) 83 (8 + 5 * ((s 83 (6 - (z / 4))) - 1))) (hld ((nts s 1 (((8 + (5 * ((s 83 (6 - (z / 4))) - 1))) + 1) + (z % 4)) (s 83 (((8 + (5 * ((s 83 (6 - (z / 4))) - 1))) + 1) + (z % 4))) 0) 83) ((s 83 (6 - (z / 4))) - 1)) ((nts s 1 (((8 + (5 * ((s 83 (6 - (z / 4))) - 1))) + 1) + (z % 4)) (s 83 (((8 + (5 * ((s 83 (6 - (z / 4))) - 1))) + 1) + (z % 4))) 0) 38 5) (z % 4))))) 83 4) + 1)) 83 (((8 + (5 * ((s 83 (6 - (z / 4))) - 1))) + 1) + (z % 4)))) F_206_89 ty_83 l4 (lt_ln ln_83 l5) rfl ?_
  refine r_ireturn F_206_90 rt_206 ?_
  exact l14
theorem t_X6_brings {X : List Int32} {d : Nat} {s : m_St} {P : Option Value → m_St → Prop}
    (l1 : 0 ≤ s 83 3)
    (l2 : s 83 3 < 40)
    (l3 : P (some (vI (s 83 1))) (m_upd (nts s 2 (s 83 1) 0 0) 83 1 ((nts s 2 (s 83 1) 0 0) 83 2)))
    : Cl X (d + 1) 210 [vR 77] s P := by
  refine Cl_of n_210 rfl ?_
  show Rn _ _ _ _ [some (vR 77), none] [] _ _
  refine r_ldR_n (m := 0) F_210_0 rfl ?_
  refine r_getR (J := 5) F_210_1 o_210 fl_6_25 ty_77 (by decide) rfl (kd2 kd_77_5 (by decide)) (kd9 kd_77_5 (by decide)) rf_77_5 ?_
  refine r_iconst F_210_4 ?_
  refine r_iald (e := (s 83 1)) F_210_5 ty_83 (by decide) (lt_ln ln_83 (by decide)) rfl ?_
  refine r_stI_n (m := 1) (L' := [some (vR 77), some (vI (s 83 1))]) F_210_6 rfl rfl ?_
  refine r_ldR_n (m := 0) F_210_7 rfl ?_
  refine r_iconst F_210_8 ?_
  refine r_ldI_n (m := 1) F_210_9 rfl ?_
  refine r_iconst F_210_10 ?_
  refine r_iconst F_210_11 ?_
  refine r_virt2 (A := [vI 2, vI (s 83 1), vI 0, vI 0]) (r := []) (n := 4) F_210_12 o_210 il_6_171 rfl rfl rfl rfl ty_77 vy_200 (lay_le n_200 rfl) ?_
  refine sp_notes l1 l2 ?_
  show Rn _ _ _ _ _ [] _ _
  refine r_ldR_n (m := 0) F_210_15 rfl ?_
  refine r_getR (J := 5) F_210_16 o_210 fl_6_25 ty_77 (by decide) rfl (kd2 kd_77_5 (by decide)) (kd9 kd_77_5 (by decide)) rf_77_5 ?_
  refine r_iconst F_210_19 ?_
  refine r_ldR_n (m := 0) F_210_20 rfl ?_
  refine r_getR (J := 5) F_210_21 o_210 fl_6_25 ty_77 (by decide) rfl (kd2 kd_77_5 (by decide)) (kd9 kd_77_5 (by decide)) rf_77_5 ?_
  refine r_iconst F_210_24 ?_
  refine r_iald (e := ((nts s 2 (s 83 1) 0 0) 83 2)) F_210_25 ty_83 (by decide) (lt_ln ln_83 (by decide)) rfl ?_
  refine r_iast F_210_26 ty_83 (by decide) (lt_ln ln_83 (by decide)) ?_
  refine r_ldI_n (m := 1) F_210_27 rfl ?_
  refine r_ireturn F_210_28 rt_210 ?_
  exact l3
theorem t_X6_takesBack {X : List Int32} {d : Nat} {s : m_St} {P : Option Value → m_St → Prop} {k : Int} (k0 : 0 ≤ k)
    (l1 : k < 198)
    (l2 : inR (s 83 k))
    (l3 : ¬ (s 83 k) = 0 → ¬ (s 83 k) = 1 → 0 ≤ (k + 1))
    (l4 : ¬ (s 83 k) = 0 → ¬ (s 83 k) = 1 → (k + 1) < 198)
    (l5 : ¬ (s 83 k) = 0 → ¬ (s 83 k) = 1 → P none (m_upd s 83 1 (s 83 (k + 1))))
    (l6 : ¬ (s 83 k) = 0 → (s 83 k) = 1 → 0 ≤ (k + 1))
    (l7 : ¬ (s 83 k) = 0 → (s 83 k) = 1 → (k + 1) < 198)
    (l8 : ¬ (s 83 k) = 0 → (s 83 k) = 1 → 0 ≤ (k + 2))
    (l9 : ¬ (s 83 k) = 0 → (s 83 k) = 1 → (k + 2) < 198)
    (l10 : ¬ (s 83 k) = 0 → (s 83 k) = 1 → 0 ≤ (s 83 (k + 1)))
    (l11 : ¬ (s 83 k) = 0 → (s 83 k) = 1 → (s 83 (k + 1)) < 198)
    (l12 : ¬ (s 83 k) = 0 → (s 83 k) = 1 → P none (m_upd (m_upd (m_upd s 83 (s 83 (k + 1)) (s 83 (k + 2))) 83 1 (((m_upd s 83 (s 83 (k + 1)) (s 83 (k + 2))) 83 1) + 1)) 83 4 (((m_upd s 83 (s 83 (k + 1)) (s 83 (k + 2))) 83 4) - 1)))
    (l13 : (s 83 k) = 0 → 0 ≤ (k + 1))
    (l14 : (s 83 k) = 0 → (k + 1) < 198)
    (l15 : (s 83 k) = 0 → 0 ≤ (k + 2))
    (l16 : (s 83 k) = 0 → (k + 2) < 198)
    (l17 : (s 83 k) = 0 → P none (m_upd (m_upd s 83 5 (s 83 (k + 1))) 83 6 ((m_upd s 83 5 (s 83 (k + 1))) 83 (k + 2))))
    : Cl X d 212 [vR 77, vI k] s P := by
  refine Cl_of n_212 rfl ?_
  show Rn _ _ _ _ [some (vR 77), some (vI k)] [] _ _
  refine r_ldR_n (m := 0) F_212_0 rfl ?_
  refine r_getR (J := 5) F_212_1 o_212 fl_6_25 ty_77 (by decide) rfl (kd2 kd_77_5 (by decide)) (kd9 kd_77_5 (by decide)) rf_77_5 ?_
  refine r_ldI_n (m := 1) F_212_4 rfl ?_
  refine r_iald (e := (s 83 k)) F_212_5 ty_83 k0 (lt_ln ln_83 l1) rfl ?_
  refine r_if (t := 41) F_212_6 rfl l2 ?_ ?_
  · intro e1
    replace e1 : ¬ (s 83 k) = 0 := e1
    refine r_ldR_n (m := 0) F_212_41 rfl ?_
    refine r_getR (J := 5) F_212_42 o_212 fl_6_25 ty_77 (by decide) rfl (kd2 kd_77_5 (by decide)) (kd9 kd_77_5 (by decide)) rf_77_5 ?_
    refine r_ldI_n (m := 1) F_212_45 rfl ?_
    refine r_iald (e := (s 83 k)) F_212_46 ty_83 k0 (lt_ln ln_83 l1) rfl ?_
    refine r_iconst F_212_47 ?_
    refine r_icmp (t := 95) F_212_48 rfl l2 (by decide) ?_ ?_
    · intro e2
      replace e2 : ¬ (s 83 k) = 1 := e2
      refine r_ldR_n (m := 0) F_212_95 rfl ?_
      refine r_getR (J := 5) F_212_96 o_212 fl_6_25 ty_77 (by decide) rfl (kd2 kd_77_5 (by decide)) (kd9 kd_77_5 (by decide)) rf_77_5 ?_
      refine r_iconst F_212_99 ?_
      refine r_ldR_n (m := 0) F_212_100 rfl ?_
      refine r_getR (J := 5) F_212_101 o_212 fl_6_25 ty_77 (by decide) rfl (kd2 kd_77_5 (by decide)) (kd9 kd_77_5 (by decide)) rf_77_5 ?_
      refine r_ldI_n (m := 1) F_212_104 rfl ?_
      refine r_iconst F_212_105 ?_
      refine r_iadd F_212_106 rfl ?_
      refine r_iald (e := (s 83 (k + 1))) F_212_107 ty_83 (l3 e1 e2) (lt_ln ln_83 (l4 e1 e2)) rfl ?_
      refine r_iast F_212_108 ty_83 (by decide) (lt_ln ln_83 (by decide)) ?_
      refine r_return F_212_109 rt_212 ?_
      exact (l5 e1 e2)
    · intro e3
      replace e3 : (s 83 k) = 1 := (Classical.not_not.mp e3)
      refine r_ldR_n (m := 0) F_212_51 rfl ?_
      refine r_getR (J := 5) F_212_52 o_212 fl_6_25 ty_77 (by decide) rfl (kd2 kd_77_5 (by decide)) (kd9 kd_77_5 (by decide)) rf_77_5 ?_
      refine r_ldR_n (m := 0) F_212_55 rfl ?_
      refine r_getR (J := 5) F_212_56 o_212 fl_6_25 ty_77 (by decide) rfl (kd2 kd_77_5 (by decide)) (kd9 kd_77_5 (by decide)) rf_77_5 ?_
      refine r_ldI_n (m := 1) F_212_59 rfl ?_
      refine r_iconst F_212_60 ?_
      refine r_iadd F_212_61 rfl ?_
      refine r_iald (e := (s 83 (k + 1))) F_212_62 ty_83 (l6 e1 e3) (lt_ln ln_83 (l7 e1 e3)) rfl ?_
      refine r_ldR_n (m := 0) F_212_63 rfl ?_
      refine r_getR (J := 5) F_212_64 o_212 fl_6_25 ty_77 (by decide) rfl (kd2 kd_77_5 (by decide)) (kd9 kd_77_5 (by decide)) rf_77_5 ?_
      refine r_ldI_n (m := 1) F_212_67 rfl ?_
      refine r_iconst F_212_68 ?_
      refine r_iadd F_212_69 rfl ?_
      refine r_iald (e := (s 83 (k + 2))) F_212_70 ty_83 (l8 e1 e3) (lt_ln ln_83 (l9 e1 e3)) rfl ?_
      refine r_iast F_212_71 ty_83 (l10 e1 e3) (lt_ln ln_83 (l11 e1 e3)) ?_
      refine r_ldR_n (m := 0) F_212_72 rfl ?_
      refine r_getR (J := 5) F_212_73 o_212 fl_6_25 ty_77 (by decide) rfl (kd2 kd_77_5 (by decide)) (kd9 kd_77_5 (by decide)) rf_77_5 ?_
      refine r_iconst F_212_76 ?_
      refine r_dup2 F_212_77 ?_
      refine r_iald (e := ((m_upd s 83 (s 83 (k + 1)) (s 83 (k + 2))) 83 1)) F_212_78 ty_83 (by decide) (lt_ln ln_83 (by decide)) rfl ?_
      refine r_iconst F_212_79 ?_
      refine r_iadd F_212_80 rfl ?_
      refine r_iast F_212_81 ty_83 (by decide) (lt_ln ln_83 (by decide)) ?_
      refine r_ldR_n (m := 0) F_212_82 rfl ?_
      refine r_getR (J := 5) F_212_83 o_212 fl_6_25 ty_77 (by decide) rfl (kd2 kd_77_5 (by decide)) (kd9 kd_77_5 (by decide)) rf_77_5 ?_
      refine r_iconst F_212_86 ?_
      refine r_dup2 F_212_87 ?_
      refine r_iald (e := ((m_upd s 83 (s 83 (k + 1)) (s 83 (k + 2))) 83 4)) F_212_88 ty_83 (by decide) (lt_ln ln_83 (by decide)) (upd_nj (by decide)) ?_
      refine r_iconst F_212_89 ?_
      refine r_isub F_212_90 rfl ?_
      refine r_iast F_212_91 ty_83 (by decide) (lt_ln ln_83 (by decide)) ?_
      refine r_goto (t := 109) F_212_92 rfl ?_
      refine r_return F_212_109 rt_212 ?_
      exact (l12 e1 e3)
  · intro e4
    replace e4 : (s 83 k) = 0 := (Classical.not_not.mp e4)
    refine r_ldR_n (m := 0) F_212_9 rfl ?_
    refine r_getR (J := 5) F_212_10 o_212 fl_6_25 ty_77 (by decide) rfl (kd2 kd_77_5 (by decide)) (kd9 kd_77_5 (by decide)) rf_77_5 ?_
    refine r_iconst F_212_13 ?_
    refine r_ldR_n (m := 0) F_212_14 rfl ?_
    refine r_getR (J := 5) F_212_15 o_212 fl_6_25 ty_77 (by decide) rfl (kd2 kd_77_5 (by decide)) (kd9 kd_77_5 (by decide)) rf_77_5 ?_
    refine r_ldI_n (m := 1) F_212_18 rfl ?_
    refine r_iconst F_212_19 ?_
    refine r_iadd F_212_20 rfl ?_
    refine r_iald (e := (s 83 (k + 1))) F_212_21 ty_83 (l13 e4) (lt_ln ln_83 (l14 e4)) rfl ?_
    refine r_iast F_212_22 ty_83 (by decide) (lt_ln ln_83 (by decide)) ?_
    refine r_ldR_n (m := 0) F_212_23 rfl ?_
    refine r_getR (J := 5) F_212_24 o_212 fl_6_25 ty_77 (by decide) rfl (kd2 kd_77_5 (by decide)) (kd9 kd_77_5 (by decide)) rf_77_5 ?_
    refine r_bipush F_212_27 bi_6 ?_
    refine r_ldR_n (m := 0) F_212_29 rfl ?_
    refine r_getR (J := 5) F_212_30 o_212 fl_6_25 ty_77 (by decide) rfl (kd2 kd_77_5 (by decide)) (kd9 kd_77_5 (by decide)) rf_77_5 ?_
    refine r_ldI_n (m := 1) F_212_33 rfl ?_
    refine r_iconst F_212_34 ?_
    refine r_iadd F_212_35 rfl ?_
    refine r_iald (e := ((m_upd s 83 5 (s 83 (k + 1))) 83 (k + 2))) F_212_36 ty_83 (l15 e4) (lt_ln ln_83 (l16 e4)) rfl ?_
    refine r_iast F_212_37 ty_83 (by decide) (lt_ln ln_83 (by decide)) ?_
    refine r_goto (t := 109) F_212_38 rfl ?_
    refine r_return F_212_109 rt_212 ?_
    exact (l17 e4)
