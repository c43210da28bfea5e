/-! the constructors, frame by frame (a program wrote it) -/
theorem btz_3 : Rz 7 2 0 (m_ent 2 [.ref 1, .int 6, .int 40]) [] hp_2 (none, hp_5) := by
  refine Rz_seg (j := 14) (q := (23, [some (.ref 1), some (.int 6), some (.int 40), some (.int 6), none], [.ref 2, .ref 1], hp_3)) (by decide +kernel) ?_
  refine Rz_seg (j := 6) (q := (36, [some (.ref 1), some (.int 6), some (.int 40), some (.int 6), none], [.ref 3, .ref 1], hp_4)) (by decide +kernel) ?_
  refine Rz_seg (j := 66) (q := (62, [some (.ref 1), some (.int 6), some (.int 40), some (.int 6), some (.int 6)], [], hp_5)) (by decide +kernel) ?_
  exact Rz_ret ⟨1, by decide +kernel, rfl, rfl⟩ (by decide +kernel)
theorem btz_4 : Rz 7 2 0 (m_ent 2 [.ref 10, .int 4, .int 60]) [] hp_6 (none, hp_9) := by
  refine Rz_seg (j := 14) (q := (23, [some (.ref 10), some (.int 4), some (.int 60), some (.int 4), none], [.ref 11, .ref 10], hp_7)) (by decide +kernel) ?_
  refine Rz_seg (j := 6) (q := (36, [some (.ref 10), some (.int 4), some (.int 60), some (.int 4), none], [.ref 12, .ref 10], hp_8)) (by decide +kernel) ?_
  refine Rz_seg (j := 46) (q := (62, [some (.ref 10), some (.int 4), some (.int 60), some (.int 4), some (.int 4)], [], hp_9)) (by decide +kernel) ?_
  exact Rz_ret ⟨1, by decide +kernel, rfl, rfl⟩ (by decide +kernel)
theorem btz_5 : Rz 7 2 0 (m_ent 2 [.ref 17, .int 3, .int 40]) [] hp_10 (none, hp_13) := by
  refine Rz_seg (j := 14) (q := (23, [some (.ref 17), some (.int 3), some (.int 40), some (.int 3), none], [.ref 18, .ref 17], hp_11)) (by decide +kernel) ?_
  refine Rz_seg (j := 6) (q := (36, [some (.ref 17), some (.int 3), some (.int 40), some (.int 3), none], [.ref 19, .ref 17], hp_12)) (by decide +kernel) ?_
  refine Rz_seg (j := 36) (q := (62, [some (.ref 17), some (.int 3), some (.int 40), some (.int 3), some (.int 3)], [], hp_13)) (by decide +kernel) ?_
  exact Rz_ret ⟨1, by decide +kernel, rfl, rfl⟩ (by decide +kernel)
theorem btz_7 : Rz 6 5 0 (m_ent 5 [.ref 26]) [] hp_17 (none, hp_19) := by
  refine Rz_seg (j := 5) (q := (8, [some (.ref 26)], [.ref 27, .ref 26], hp_18)) (by decide +kernel) ?_
  refine Rz_seg (j := 7) (q := (21, [some (.ref 26)], [], hp_19)) (by decide +kernel) ?_
  exact Rz_ret ⟨1, by decide +kernel, rfl, rfl⟩ (by decide +kernel)
theorem btz_8 : Rz 6 5 0 (m_ent 5 [.ref 28]) [] hp_20 (none, hp_22) := by
  refine Rz_seg (j := 5) (q := (8, [some (.ref 28)], [.ref 29, .ref 28], hp_21)) (by decide +kernel) ?_
  refine Rz_seg (j := 7) (q := (21, [some (.ref 28)], [], hp_22)) (by decide +kernel) ?_
  exact Rz_ret ⟨1, by decide +kernel, rfl, rfl⟩ (by decide +kernel)
theorem btz_9 : Rz 6 5 0 (m_ent 5 [.ref 30]) [] hp_23 (none, hp_25) := by
  refine Rz_seg (j := 5) (q := (8, [some (.ref 30)], [.ref 31, .ref 30], hp_24)) (by decide +kernel) ?_
  refine Rz_seg (j := 7) (q := (21, [some (.ref 30)], [], hp_25)) (by decide +kernel) ?_
  exact Rz_ret ⟨1, by decide +kernel, rfl, rfl⟩ (by decide +kernel)
theorem btz_10 : Rz 6 5 0 (m_ent 5 [.ref 32]) [] hp_26 (none, hp_28) := by
  refine Rz_seg (j := 5) (q := (8, [some (.ref 32)], [.ref 33, .ref 32], hp_27)) (by decide +kernel) ?_
  refine Rz_seg (j := 7) (q := (21, [some (.ref 32)], [], hp_28)) (by decide +kernel) ?_
  exact Rz_ret ⟨1, by decide +kernel, rfl, rfl⟩ (by decide +kernel)
theorem btz_11 : Rz 6 5 0 (m_ent 5 [.ref 34]) [] hp_29 (none, hp_31) := by
  refine Rz_seg (j := 5) (q := (8, [some (.ref 34)], [.ref 35, .ref 34], hp_30)) (by decide +kernel) ?_
  refine Rz_seg (j := 7) (q := (21, [some (.ref 34)], [], hp_31)) (by decide +kernel) ?_
  exact Rz_ret ⟨1, by decide +kernel, rfl, rfl⟩ (by decide +kernel)
theorem btz_12 : Rz 6 5 0 (m_ent 5 [.ref 36]) [] hp_32 (none, hp_34) := by
  refine Rz_seg (j := 5) (q := (8, [some (.ref 36)], [.ref 37, .ref 36], hp_33)) (by decide +kernel) ?_
  refine Rz_seg (j := 7) (q := (21, [some (.ref 36)], [], hp_34)) (by decide +kernel) ?_
  exact Rz_ret ⟨1, by decide +kernel, rfl, rfl⟩ (by decide +kernel)
theorem btz_6 : Rz 7 4 0 (m_ent 4 [.ref 23]) [] hp_14 (none, hp_35) := by
  refine Rz_seg (j := 5) (q := (10, [some (.ref 23), none], [.ref 24, .ref 23], hp_15)) (by decide +kernel) ?_
  refine Rz_seg (j := 4) (q := (18, [some (.ref 23), none], [.ref 25, .ref 23], hp_16)) (by decide +kernel) ?_
  refine Rz_seg (j := 25) (q := (62, [some (.ref 23), some (.int 0)], [.ref 26, .int 0, .ref 24], hp_17)) (by decide +kernel) ?_
  refine Rz_seg (j := 1) (q := (63, [some (.ref 23), some (.int 0)], [.ref 26, .ref 26, .int 0, .ref 24], hp_17)) (by decide +kernel) ?_
  refine Rz_call (ix := 37) (y := 5) (As := [.ref 26]) (r := [.ref 26, .int 0, .ref 24]) (v := none) (h' := hp_19) ⟨3, by decide +kernel, rfl, rfl⟩ (by decide +kernel) (by decide +kernel) (by decide +kernel) btz_7 ?_
  refine Rz_seg (j := 10) (q := (62, [some (.ref 23), some (.int 1)], [.ref 28, .int 1, .ref 24], hp_20)) (by decide +kernel) ?_
  refine Rz_seg (j := 1) (q := (63, [some (.ref 23), some (.int 1)], [.ref 28, .ref 28, .int 1, .ref 24], hp_20)) (by decide +kernel) ?_
  refine Rz_call (ix := 37) (y := 5) (As := [.ref 28]) (r := [.ref 28, .int 1, .ref 24]) (v := none) (h' := hp_22) ⟨3, by decide +kernel, rfl, rfl⟩ (by decide +kernel) (by decide +kernel) (by decide +kernel) btz_8 ?_
  refine Rz_seg (j := 10) (q := (62, [some (.ref 23), some (.int 2)], [.ref 30, .int 2, .ref 24], hp_23)) (by decide +kernel) ?_
  refine Rz_seg (j := 1) (q := (63, [some (.ref 23), some (.int 2)], [.ref 30, .ref 30, .int 2, .ref 24], hp_23)) (by decide +kernel) ?_
  refine Rz_call (ix := 37) (y := 5) (As := [.ref 30]) (r := [.ref 30, .int 2, .ref 24]) (v := none) (h' := hp_25) ⟨3, by decide +kernel, rfl, rfl⟩ (by decide +kernel) (by decide +kernel) (by decide +kernel) btz_9 ?_
  refine Rz_seg (j := 10) (q := (62, [some (.ref 23), some (.int 3)], [.ref 32, .int 3, .ref 24], hp_26)) (by decide +kernel) ?_
  refine Rz_seg (j := 1) (q := (63, [some (.ref 23), some (.int 3)], [.ref 32, .ref 32, .int 3, .ref 24], hp_26)) (by decide +kernel) ?_
  refine Rz_call (ix := 37) (y := 5) (As := [.ref 32]) (r := [.ref 32, .int 3, .ref 24]) (v := none) (h' := hp_28) ⟨3, by decide +kernel, rfl, rfl⟩ (by decide +kernel) (by decide +kernel) (by decide +kernel) btz_10 ?_
  refine Rz_seg (j := 10) (q := (62, [some (.ref 23), some (.int 4)], [.ref 34, .int 4, .ref 24], hp_29)) (by decide +kernel) ?_
  refine Rz_seg (j := 1) (q := (63, [some (.ref 23), some (.int 4)], [.ref 34, .ref 34, .int 4, .ref 24], hp_29)) (by decide +kernel) ?_
  refine Rz_call (ix := 37) (y := 5) (As := [.ref 34]) (r := [.ref 34, .int 4, .ref 24]) (v := none) (h' := hp_31) ⟨3, by decide +kernel, rfl, rfl⟩ (by decide +kernel) (by decide +kernel) (by decide +kernel) btz_11 ?_
  refine Rz_seg (j := 10) (q := (62, [some (.ref 23), some (.int 5)], [.ref 36, .int 5, .ref 24], hp_32)) (by decide +kernel) ?_
  refine Rz_seg (j := 1) (q := (63, [some (.ref 23), some (.int 5)], [.ref 36, .ref 36, .int 5, .ref 24], hp_32)) (by decide +kernel) ?_
  refine Rz_call (ix := 37) (y := 5) (As := [.ref 36]) (r := [.ref 36, .int 5, .ref 24]) (v := none) (h' := hp_34) ⟨3, by decide +kernel, rfl, rfl⟩ (by decide +kernel) (by decide +kernel) (by decide +kernel) btz_12 ?_
  refine Rz_seg (j := 6) (q := (73, [some (.ref 23), some (.int 6)], [], hp_35)) (by decide +kernel) ?_
  exact Rz_ret ⟨1, by decide +kernel, rfl, rfl⟩ (by decide +kernel)
theorem btz_14 : Rz 6 5 0 (m_ent 5 [.ref 42]) [] hp_40 (none, hp_42) := by
  refine Rz_seg (j := 5) (q := (8, [some (.ref 42)], [.ref 43, .ref 42], hp_41)) (by decide +kernel) ?_
  refine Rz_seg (j := 7) (q := (21, [some (.ref 42)], [], hp_42)) (by decide +kernel) ?_
  exact Rz_ret ⟨1, by decide +kernel, rfl, rfl⟩ (by decide +kernel)
theorem btz_15 : Rz 6 5 0 (m_ent 5 [.ref 44]) [] hp_43 (none, hp_45) := by
  refine Rz_seg (j := 5) (q := (8, [some (.ref 44)], [.ref 45, .ref 44], hp_44)) (by decide +kernel) ?_
  refine Rz_seg (j := 7) (q := (21, [some (.ref 44)], [], hp_45)) (by decide +kernel) ?_
  exact Rz_ret ⟨1, by decide +kernel, rfl, rfl⟩ (by decide +kernel)
theorem btz_16 : Rz 6 5 0 (m_ent 5 [.ref 46]) [] hp_46 (none, hp_48) := by
  refine Rz_seg (j := 5) (q := (8, [some (.ref 46)], [.ref 47, .ref 46], hp_47)) (by decide +kernel) ?_
  refine Rz_seg (j := 7) (q := (21, [some (.ref 46)], [], hp_48)) (by decide +kernel) ?_
  exact Rz_ret ⟨1, by decide +kernel, rfl, rfl⟩ (by decide +kernel)
theorem btz_17 : Rz 6 5 0 (m_ent 5 [.ref 48]) [] hp_49 (none, hp_51) := by
  refine Rz_seg (j := 5) (q := (8, [some (.ref 48)], [.ref 49, .ref 48], hp_50)) (by decide +kernel) ?_
  refine Rz_seg (j := 7) (q := (21, [some (.ref 48)], [], hp_51)) (by decide +kernel) ?_
  exact Rz_ret ⟨1, by decide +kernel, rfl, rfl⟩ (by decide +kernel)
theorem btz_18 : Rz 6 5 0 (m_ent 5 [.ref 50]) [] hp_52 (none, hp_54) := by
  refine Rz_seg (j := 5) (q := (8, [some (.ref 50)], [.ref 51, .ref 50], hp_53)) (by decide +kernel) ?_
  refine Rz_seg (j := 7) (q := (21, [some (.ref 50)], [], hp_54)) (by decide +kernel) ?_
  exact Rz_ret ⟨1, by decide +kernel, rfl, rfl⟩ (by decide +kernel)
theorem btz_19 : Rz 6 5 0 (m_ent 5 [.ref 52]) [] hp_55 (none, hp_57) := by
  refine Rz_seg (j := 5) (q := (8, [some (.ref 52)], [.ref 53, .ref 52], hp_56)) (by decide +kernel) ?_
  refine Rz_seg (j := 7) (q := (21, [some (.ref 52)], [], hp_57)) (by decide +kernel) ?_
  exact Rz_ret ⟨1, by decide +kernel, rfl, rfl⟩ (by decide +kernel)
theorem btz_20 : Rz 6 5 0 (m_ent 5 [.ref 54]) [] hp_58 (none, hp_60) := by
  refine Rz_seg (j := 5) (q := (8, [some (.ref 54)], [.ref 55, .ref 54], hp_59)) (by decide +kernel) ?_
  refine Rz_seg (j := 7) (q := (21, [some (.ref 54)], [], hp_60)) (by decide +kernel) ?_
  exact Rz_ret ⟨1, by decide +kernel, rfl, rfl⟩ (by decide +kernel)
theorem btz_21 : Rz 6 5 0 (m_ent 5 [.ref 56]) [] hp_61 (none, hp_63) := by
  refine Rz_seg (j := 5) (q := (8, [some (.ref 56)], [.ref 57, .ref 56], hp_62)) (by decide +kernel) ?_
  refine Rz_seg (j := 7) (q := (21, [some (.ref 56)], [], hp_63)) (by decide +kernel) ?_
  exact Rz_ret ⟨1, by decide +kernel, rfl, rfl⟩ (by decide +kernel)
theorem btz_22 : Rz 6 5 0 (m_ent 5 [.ref 58]) [] hp_64 (none, hp_66) := by
  refine Rz_seg (j := 5) (q := (8, [some (.ref 58)], [.ref 59, .ref 58], hp_65)) (by decide +kernel) ?_
  refine Rz_seg (j := 7) (q := (21, [some (.ref 58)], [], hp_66)) (by decide +kernel) ?_
  exact Rz_ret ⟨1, by decide +kernel, rfl, rfl⟩ (by decide +kernel)
theorem btz_23 : Rz 6 5 0 (m_ent 5 [.ref 60]) [] hp_67 (none, hp_69) := by
  refine Rz_seg (j := 5) (q := (8, [some (.ref 60)], [.ref 61, .ref 60], hp_68)) (by decide +kernel) ?_
  refine Rz_seg (j := 7) (q := (21, [some (.ref 60)], [], hp_69)) (by decide +kernel) ?_
  exact Rz_ret ⟨1, by decide +kernel, rfl, rfl⟩ (by decide +kernel)
theorem btz_24 : Rz 6 5 0 (m_ent 5 [.ref 62]) [] hp_70 (none, hp_72) := by
  refine Rz_seg (j := 5) (q := (8, [some (.ref 62)], [.ref 63, .ref 62], hp_71)) (by decide +kernel) ?_
  refine Rz_seg (j := 7) (q := (21, [some (.ref 62)], [], hp_72)) (by decide +kernel) ?_
  exact Rz_ret ⟨1, by decide +kernel, rfl, rfl⟩ (by decide +kernel)
theorem btz_25 : Rz 6 5 0 (m_ent 5 [.ref 64]) [] hp_73 (none, hp_75) := by
  refine Rz_seg (j := 5) (q := (8, [some (.ref 64)], [.ref 65, .ref 64], hp_74)) (by decide +kernel) ?_
  refine Rz_seg (j := 7) (q := (21, [some (.ref 64)], [], hp_75)) (by decide +kernel) ?_
  exact Rz_ret ⟨1, by decide +kernel, rfl, rfl⟩ (by decide +kernel)
theorem btz_13 : Rz 7 6 0 (m_ent 6 [.ref 38]) [] hp_36 (none, hp_76) := by
  refine Rz_seg (j := 5) (q := (10, [some (.ref 38), none], [.ref 39, .ref 38], hp_37)) (by decide +kernel) ?_
  refine Rz_seg (j := 4) (q := (19, [some (.ref 38), none], [.ref 40, .ref 38], hp_38)) (by decide +kernel) ?_
  refine Rz_seg (j := 4) (q := (27, [some (.ref 38), none], [.ref 41, .ref 38], hp_39)) (by decide +kernel) ?_
  refine Rz_seg (j := 31) (q := (81, [some (.ref 38), some (.int 0)], [.ref 42, .int 0, .ref 39], hp_40)) (by decide +kernel) ?_
  refine Rz_seg (j := 1) (q := (82, [some (.ref 38), some (.int 0)], [.ref 42, .ref 42, .int 0, .ref 39], hp_40)) (by decide +kernel) ?_
  refine Rz_call (ix := 46) (y := 5) (As := [.ref 42]) (r := [.ref 42, .int 0, .ref 39]) (v := none) (h' := hp_42) ⟨3, by decide +kernel, rfl, rfl⟩ (by decide +kernel) (by decide +kernel) (by decide +kernel) btz_14 ?_
  refine Rz_seg (j := 5) (q := (94, [some (.ref 38), some (.int 0)], [.ref 44, .int 0, .ref 40], hp_43)) (by decide +kernel) ?_
  refine Rz_seg (j := 1) (q := (95, [some (.ref 38), some (.int 0)], [.ref 44, .ref 44, .int 0, .ref 40], hp_43)) (by decide +kernel) ?_
  refine Rz_call (ix := 46) (y := 5) (As := [.ref 44]) (r := [.ref 44, .int 0, .ref 40]) (v := none) (h' := hp_45) ⟨3, by decide +kernel, rfl, rfl⟩ (by decide +kernel) (by decide +kernel) (by decide +kernel) btz_15 ?_
  refine Rz_seg (j := 10) (q := (81, [some (.ref 38), some (.int 1)], [.ref 46, .int 1, .ref 39], hp_46)) (by decide +kernel) ?_
  refine Rz_seg (j := 1) (q := (82, [some (.ref 38), some (.int 1)], [.ref 46, .ref 46, .int 1, .ref 39], hp_46)) (by decide +kernel) ?_
  refine Rz_call (ix := 46) (y := 5) (As := [.ref 46]) (r := [.ref 46, .int 1, .ref 39]) (v := none) (h' := hp_48) ⟨3, by decide +kernel, rfl, rfl⟩ (by decide +kernel) (by decide +kernel) (by decide +kernel) btz_16 ?_
  refine Rz_seg (j := 5) (q := (94, [some (.ref 38), some (.int 1)], [.ref 48, .int 1, .ref 40], hp_49)) (by decide +kernel) ?_
  refine Rz_seg (j := 1) (q := (95, [some (.ref 38), some (.int 1)], [.ref 48, .ref 48, .int 1, .ref 40], hp_49)) (by decide +kernel) ?_
  refine Rz_call (ix := 46) (y := 5) (As := [.ref 48]) (r := [.ref 48, .int 1, .ref 40]) (v := none) (h' := hp_51) ⟨3, by decide +kernel, rfl, rfl⟩ (by decide +kernel) (by decide +kernel) (by decide +kernel) btz_17 ?_
  refine Rz_seg (j := 10) (q := (81, [some (.ref 38), some (.int 2)], [.ref 50, .int 2, .ref 39], hp_52)) (by decide +kernel) ?_
  refine Rz_seg (j := 1) (q := (82, [some (.ref 38), some (.int 2)], [.ref 50, .ref 50, .int 2, .ref 39], hp_52)) (by decide +kernel) ?_
  refine Rz_call (ix := 46) (y := 5) (As := [.ref 50]) (r := [.ref 50, .int 2, .ref 39]) (v := none) (h' := hp_54) ⟨3, by decide +kernel, rfl, rfl⟩ (by decide +kernel) (by decide +kernel) (by decide +kernel) btz_18 ?_
  refine Rz_seg (j := 5) (q := (94, [some (.ref 38), some (.int 2)], [.ref 52, .int 2, .ref 40], hp_55)) (by decide +kernel) ?_
  refine Rz_seg (j := 1) (q := (95, [some (.ref 38), some (.int 2)], [.ref 52, .ref 52, .int 2, .ref 40], hp_55)) (by decide +kernel) ?_
  refine Rz_call (ix := 46) (y := 5) (As := [.ref 52]) (r := [.ref 52, .int 2, .ref 40]) (v := none) (h' := hp_57) ⟨3, by decide +kernel, rfl, rfl⟩ (by decide +kernel) (by decide +kernel) (by decide +kernel) btz_19 ?_
  refine Rz_seg (j := 10) (q := (81, [some (.ref 38), some (.int 3)], [.ref 54, .int 3, .ref 39], hp_58)) (by decide +kernel) ?_
  refine Rz_seg (j := 1) (q := (82, [some (.ref 38), some (.int 3)], [.ref 54, .ref 54, .int 3, .ref 39], hp_58)) (by decide +kernel) ?_
  refine Rz_call (ix := 46) (y := 5) (As := [.ref 54]) (r := [.ref 54, .int 3, .ref 39]) (v := none) (h' := hp_60) ⟨3, by decide +kernel, rfl, rfl⟩ (by decide +kernel) (by decide +kernel) (by decide +kernel) btz_20 ?_
  refine Rz_seg (j := 5) (q := (94, [some (.ref 38), some (.int 3)], [.ref 56, .int 3, .ref 40], hp_61)) (by decide +kernel) ?_
  refine Rz_seg (j := 1) (q := (95, [some (.ref 38), some (.int 3)], [.ref 56, .ref 56, .int 3, .ref 40], hp_61)) (by decide +kernel) ?_
  refine Rz_call (ix := 46) (y := 5) (As := [.ref 56]) (r := [.ref 56, .int 3, .ref 40]) (v := none) (h' := hp_63) ⟨3, by decide +kernel, rfl, rfl⟩ (by decide +kernel) (by decide +kernel) (by decide +kernel) btz_21 ?_
  refine Rz_seg (j := 10) (q := (81, [some (.ref 38), some (.int 4)], [.ref 58, .int 4, .ref 39], hp_64)) (by decide +kernel) ?_
  refine Rz_seg (j := 1) (q := (82, [some (.ref 38), some (.int 4)], [.ref 58, .ref 58, .int 4, .ref 39], hp_64)) (by decide +kernel) ?_
  refine Rz_call (ix := 46) (y := 5) (As := [.ref 58]) (r := [.ref 58, .int 4, .ref 39]) (v := none) (h' := hp_66) ⟨3, by decide +kernel, rfl, rfl⟩ (by decide +kernel) (by decide +kernel) (by decide +kernel) btz_22 ?_
  refine Rz_seg (j := 5) (q := (94, [some (.ref 38), some (.int 4)], [.ref 60, .int 4, .ref 40], hp_67)) (by decide +kernel) ?_
  refine Rz_seg (j := 1) (q := (95, [some (.ref 38), some (.int 4)], [.ref 60, .ref 60, .int 4, .ref 40], hp_67)) (by decide +kernel) ?_
  refine Rz_call (ix := 46) (y := 5) (As := [.ref 60]) (r := [.ref 60, .int 4, .ref 40]) (v := none) (h' := hp_69) ⟨3, by decide +kernel, rfl, rfl⟩ (by decide +kernel) (by decide +kernel) (by decide +kernel) btz_23 ?_
  refine Rz_seg (j := 10) (q := (81, [some (.ref 38), some (.int 5)], [.ref 62, .int 5, .ref 39], hp_70)) (by decide +kernel) ?_
  refine Rz_seg (j := 1) (q := (82, [some (.ref 38), some (.int 5)], [.ref 62, .ref 62, .int 5, .ref 39], hp_70)) (by decide +kernel) ?_
  refine Rz_call (ix := 46) (y := 5) (As := [.ref 62]) (r := [.ref 62, .int 5, .ref 39]) (v := none) (h' := hp_72) ⟨3, by decide +kernel, rfl, rfl⟩ (by decide +kernel) (by decide +kernel) (by decide +kernel) btz_24 ?_
  refine Rz_seg (j := 5) (q := (94, [some (.ref 38), some (.int 5)], [.ref 64, .int 5, .ref 40], hp_73)) (by decide +kernel) ?_
  refine Rz_seg (j := 1) (q := (95, [some (.ref 38), some (.int 5)], [.ref 64, .ref 64, .int 5, .ref 40], hp_73)) (by decide +kernel) ?_
  refine Rz_call (ix := 46) (y := 5) (As := [.ref 64]) (r := [.ref 64, .int 5, .ref 40]) (v := none) (h' := hp_75) ⟨3, by decide +kernel, rfl, rfl⟩ (by decide +kernel) (by decide +kernel) (by decide +kernel) btz_25 ?_
  refine Rz_seg (j := 6) (q := (105, [some (.ref 38), some (.int 6)], [], hp_76)) (by decide +kernel) ?_
  exact Rz_ret ⟨1, by decide +kernel, rfl, rfl⟩ (by decide +kernel)
theorem btz_27 : Rz 6 5 0 (m_ent 5 [.ref 67]) [] hp_78 (none, hp_80) := by
  refine Rz_seg (j := 5) (q := (8, [some (.ref 67)], [.ref 68, .ref 67], hp_79)) (by decide +kernel) ?_
  refine Rz_seg (j := 7) (q := (21, [some (.ref 67)], [], hp_80)) (by decide +kernel) ?_
  exact Rz_ret ⟨1, by decide +kernel, rfl, rfl⟩ (by decide +kernel)
theorem btz_28 : Rz 6 5 0 (m_ent 5 [.ref 69]) [] hp_81 (none, hp_83) := by
  refine Rz_seg (j := 5) (q := (8, [some (.ref 69)], [.ref 70, .ref 69], hp_82)) (by decide +kernel) ?_
  refine Rz_seg (j := 7) (q := (21, [some (.ref 69)], [], hp_83)) (by decide +kernel) ?_
  exact Rz_ret ⟨1, by decide +kernel, rfl, rfl⟩ (by decide +kernel)
theorem btz_26 : Rz 7 7 0 (m_ent 7 [.ref 66]) [] hp_77 (none, hp_87) := by
  refine Rz_seg (j := 4) (q := (8, [some (.ref 66)], [.ref 67, .ref 66], hp_78)) (by decide +kernel) ?_
  refine Rz_seg (j := 1) (q := (9, [some (.ref 66)], [.ref 67, .ref 67, .ref 66], hp_78)) (by decide +kernel) ?_
  refine Rz_call (ix := 11) (y := 5) (As := [.ref 67]) (r := [.ref 67, .ref 66]) (v := none) (h' := hp_80) ⟨3, by decide +kernel, rfl, rfl⟩ (by decide +kernel) (by decide +kernel) (by decide +kernel) btz_27 ?_
  refine Rz_seg (j := 3) (q := (19, [some (.ref 66)], [.ref 69, .ref 66], hp_81)) (by decide +kernel) ?_
  refine Rz_seg (j := 1) (q := (20, [some (.ref 66)], [.ref 69, .ref 69, .ref 66], hp_81)) (by decide +kernel) ?_
  refine Rz_call (ix := 11) (y := 5) (As := [.ref 69]) (r := [.ref 69, .ref 66]) (v := none) (h' := hp_83) ⟨3, by decide +kernel, rfl, rfl⟩ (by decide +kernel) (by decide +kernel) (by decide +kernel) btz_28 ?_
  refine Rz_seg (j := 7) (q := (35, [some (.ref 66)], [.ref 71, .ref 66], hp_84)) (by decide +kernel) ?_
  refine Rz_seg (j := 13) (q := (58, [some (.ref 66)], [.ref 72, .ref 66], hp_85)) (by decide +kernel) ?_
  refine Rz_seg (j := 10) (q := (76, [some (.ref 66)], [.ref 73, .ref 66], hp_86)) (by decide +kernel) ?_
  refine Rz_seg (j := 1) (q := (79, [some (.ref 66)], [], hp_87)) (by decide +kernel) ?_
  exact Rz_ret ⟨1, by decide +kernel, rfl, rfl⟩ (by decide +kernel)
theorem btz_29 : Rz 7 5 0 (m_ent 5 [.ref 74]) [] hp_88 (none, hp_90) := by
  refine Rz_seg (j := 5) (q := (8, [some (.ref 74)], [.ref 75, .ref 74], hp_89)) (by decide +kernel) ?_
  refine Rz_seg (j := 7) (q := (21, [some (.ref 74)], [], hp_90)) (by decide +kernel) ?_
  exact Rz_ret ⟨1, by decide +kernel, rfl, rfl⟩ (by decide +kernel)
theorem btz_2 : Rz 8 0 0 (m_ent 0 [.ref 0]) [] hp_1 (none, hp_92) := by
  refine Rz_seg (j := 4) (q := (8, [some (.ref 0)], [.ref 1, .ref 0], hp_2)) (by decide +kernel) ?_
  refine Rz_seg (j := 3) (q := (13, [some (.ref 0)], [.int 40, .int 6, .ref 1, .ref 1, .ref 0], hp_2)) (by decide +kernel) ?_
  refine Rz_call (ix := 11) (y := 2) (As := [.ref 1, .int 6, .int 40]) (r := [.ref 1, .ref 0]) (v := none) (h' := hp_5) ⟨3, by decide +kernel, rfl, rfl⟩ (by decide +kernel) (by decide +kernel) (by decide +kernel) btz_3 ?_
  refine Rz_seg (j := 3) (q := (23, [some (.ref 0)], [.ref 10, .ref 0], hp_6)) (by decide +kernel) ?_
  refine Rz_seg (j := 3) (q := (27, [some (.ref 0)], [.int 60, .int 4, .ref 10, .ref 10, .ref 0], hp_6)) (by decide +kernel) ?_
  refine Rz_call (ix := 11) (y := 2) (As := [.ref 10, .int 4, .int 60]) (r := [.ref 10, .ref 0]) (v := none) (h' := hp_9) ⟨3, by decide +kernel, rfl, rfl⟩ (by decide +kernel) (by decide +kernel) (by decide +kernel) btz_4 ?_
  refine Rz_seg (j := 3) (q := (37, [some (.ref 0)], [.ref 17, .ref 0], hp_10)) (by decide +kernel) ?_
  refine Rz_seg (j := 3) (q := (41, [some (.ref 0)], [.int 40, .int 3, .ref 17, .ref 17, .ref 0], hp_10)) (by decide +kernel) ?_
  refine Rz_call (ix := 11) (y := 2) (As := [.ref 17, .int 3, .int 40]) (r := [.ref 17, .ref 0]) (v := none) (h' := hp_13) ⟨3, by decide +kernel, rfl, rfl⟩ (by decide +kernel) (by decide +kernel) (by decide +kernel) btz_5 ?_
  refine Rz_seg (j := 3) (q := (51, [some (.ref 0)], [.ref 23, .ref 0], hp_14)) (by decide +kernel) ?_
  refine Rz_seg (j := 1) (q := (52, [some (.ref 0)], [.ref 23, .ref 23, .ref 0], hp_14)) (by decide +kernel) ?_
  refine Rz_call (ix := 26) (y := 4) (As := [.ref 23]) (r := [.ref 23, .ref 0]) (v := none) (h' := hp_35) ⟨3, by decide +kernel, rfl, rfl⟩ (by decide +kernel) (by decide +kernel) (by decide +kernel) btz_6 ?_
  refine Rz_seg (j := 3) (q := (62, [some (.ref 0)], [.ref 38, .ref 0], hp_36)) (by decide +kernel) ?_
  refine Rz_seg (j := 1) (q := (63, [some (.ref 0)], [.ref 38, .ref 38, .ref 0], hp_36)) (by decide +kernel) ?_
  refine Rz_call (ix := 33) (y := 6) (As := [.ref 38]) (r := [.ref 38, .ref 0]) (v := none) (h' := hp_76) ⟨3, by decide +kernel, rfl, rfl⟩ (by decide +kernel) (by decide +kernel) (by decide +kernel) btz_13 ?_
  refine Rz_seg (j := 3) (q := (73, [some (.ref 0)], [.ref 66, .ref 0], hp_77)) (by decide +kernel) ?_
  refine Rz_seg (j := 1) (q := (74, [some (.ref 0)], [.ref 66, .ref 66, .ref 0], hp_77)) (by decide +kernel) ?_
  refine Rz_call (ix := 40) (y := 7) (As := [.ref 66]) (r := [.ref 66, .ref 0]) (v := none) (h' := hp_87) ⟨3, by decide +kernel, rfl, rfl⟩ (by decide +kernel) (by decide +kernel) (by decide +kernel) btz_26 ?_
  refine Rz_seg (j := 3) (q := (84, [some (.ref 0)], [.ref 74, .ref 0], hp_88)) (by decide +kernel) ?_
  refine Rz_seg (j := 1) (q := (85, [some (.ref 0)], [.ref 74, .ref 74, .ref 0], hp_88)) (by decide +kernel) ?_
  refine Rz_call (ix := 47) (y := 5) (As := [.ref 74]) (r := [.ref 74, .ref 0]) (v := none) (h' := hp_90) ⟨3, by decide +kernel, rfl, rfl⟩ (by decide +kernel) (by decide +kernel) (by decide +kernel) btz_29 ?_
  refine Rz_seg (j := 4) (q := (96, [some (.ref 0)], [.ref 76, .ref 0], hp_91)) (by decide +kernel) ?_
  refine Rz_seg (j := 13) (q := (119, [some (.ref 0)], [], hp_92)) (by decide +kernel) ?_
  exact Rz_ret ⟨1, by decide +kernel, rfl, rfl⟩ (by decide +kernel)
theorem boot (X : List Int32) {r : Option Value × m_H} (h : Rx X 9 170 8 [some (.ref 1000), some (.ref 0), none, none, none, none, none, none, none, none, none, none, none, none, none, none, none, none, none, none] [] hp_92 r) : Rx X 9 170 0 (m_ent 170 [.ref 1000]) [] hp_0 r := by
  refine Rx_seg (j := 1) (q := (3, [some (.ref 1000), none, none, none, none, none, none, none, none, none, none, none, none, none, none, none, none, none, none, none], [.ref 0], hp_1)) (by decide +kernel) ?_
  refine Rx_seg (j := 1) (q := (4, [some (.ref 1000), none, none, none, none, none, none, none, none, none, none, none, none, none, none, none, none, none, none, none], [.ref 0, .ref 0], hp_1)) (by decide +kernel) ?_
  refine Rx_call (ix := 57) (y := 0) (As := [.ref 0]) (r := [.ref 0]) (v := none) (h' := hp_92) ⟨3, by decide +kernel, rfl, rfl⟩ (by decide +kernel) (by decide +kernel) (by decide +kernel) btz_2 ?_
  refine Rx_seg (j := 1) (q := (8, [some (.ref 1000), some (.ref 0), none, none, none, none, none, none, none, none, none, none, none, none, none, none, none, none, none, none], [], hp_92)) (by decide +kernel) ?_
  exact h
theorem hp_last : hp_92 = m_mk 0 m_s0 := by decide +kernel
