/-! the reference says and brings -/
theorem ntf_hj {h : Int → Int} {e a b c : Int} (h3 : 0 ≤ h 3) (h6 : h 0 ≤ 6) : ∀ j, hj (h 0) j → ntf h e a b c j = h j := fun j hjj => by
  unfold hj at hjj
  exact ntf_o (by omega) (by omega)
theorem mok_nts {s : m_St} {e a b c : Int} (h : mok s) (h3 : 0 ≤ s 83 3) : mok (nts s e a b c) := by
  have h6 := h.1.2.1
  have e83 : nts s e a b c 83 = ntf (s 83) e a b c := funext fun j => nts_83
  unfold mok
  rw [e83, nts_o (by decide), ntf_o (j := 7) (by decide) (by omega)]
  exact ⟨hok_hj (ntf_hj h3 h6) h.1, h.2⟩
theorem hrr_M {s : m_St} {z : Int} (z0 : 0 ≤ z) (z8 : z < 8) : s 83 (6 - z / 4) - 1 = hrr (s 83) z := by
  unfold hrr
  by_cases h : z < 4
  · rw [if_pos h, show 6 - z / 4 = 6 by omega]
  · rw [if_neg h, show 6 - z / 4 = 5 by omega]
section SPDB
variable {X : List Int32} {d : Nat} {s : m_St} {P : Option Value → m_St → Prop} {z : Int}
theorem sp_says (h : uok s) (n0 : 0 ≤ s 83 3) (n4 : s 83 3 < 40) (z0 : 0 ≤ z) (z8 : z < 8) (kk : P (some (vI (stp (s 38 5) (s 83) z (9 + 5 * hrr (s 83) z + z % 4)))) (mdo s z)) : Cl X (d + 4) 206 [vR 77, vI z] s P := by
  have hu := h.u
  have h6 := h.1.1.2.1
  have hM := hrr_M (s := s) z0 z8
  have hr0 : 0 ≤ hrr (s 83) z ∧ hrr (s 83) z < s 83 0 := by
    unfold hrr
    split
    · exact ⟨hu.2.2.1, hu.2.2.2⟩
    · exact ⟨hu.1, hu.2.1⟩
  obtain ⟨i6, k0, k6, hw⟩ := h.1.g hr0.1 hr0.2
  have hw1 := hw (z % 4) (by omega) (by omega)
  have eA : 8 + 5 * hrr (s 83) z + 1 + z % 4 = 9 + 5 * hrr (s 83) z + z % 4 := by omega
  have o1 : ∀ e a b c j, 0 ≤ j → j < 38 → ¬ j = 3 → nts s e a b c 83 j = s 83 j := fun e a b c j j0 j1 j3 => by rw [nts_83, ntf_o j3 (by omega)]
  have o2 : ∀ e a b c, hld (nts s e a b c 83) (hrr (s 83) z) = hld (s 83) (hrr (s 83) z) := fun e a b c => by
    unfold hld
    rw [o1 _ _ _ _ (8 + 5 * hrr (s 83) z) (by omega) (by omega) (by omega)]
    exact hset_cong fun c c0 c1 => o1 _ _ _ _ _ (by omega) (by omega) (by omega)
  have o38 : ∀ e a b c, nts s e a b c 38 5 = s 38 5 := fun e a b c => nts_o (by decide)
  have mr := mv_r (s 83 (8 + 5 * hrr (s 83) z)) (hld (s 83) (hrr (s 83) z)) (s 38 5) (z % 4)
  have cr := cl_r (s 83 (9 + 5 * hrr (s 83) z + z % 4) + mv (s 83 (8 + 5 * hrr (s 83) z)) (hld (s 83) (hrr (s 83) z)) (s 38 5) (z % 4))
  have est : stp (s 38 5) (s 83) z (9 + 5 * hrr (s 83) z + z % 4) = cl (s 83 (9 + 5 * hrr (s 83) z + z % 4) + mv (s 83 (8 + 5 * hrr (s 83) z)) (hld (s 83) (hrr (s 83) z)) (s 38 5) (z % 4)) := by
    unfold stp
    rw [if_pos z8, setf_o (by omega), setf_e]
  apply t_X6_says z0 z8 <;> intros
  all_goals (try rw [hM])
  all_goals (try rw [eA])
  all_goals first | omega | exact mok_nts h.1 n0 | skip
  · rw [o1 _ _ _ _ 0 (by omega) (by omega) (by omega)]
    exact hr0.2
  · rw [o1 _ _ _ _ _ (by omega) (by omega) (by omega), o1 _ _ _ _ _ (by omega) (by omega) (by omega), o2, o38]
    omega
  · rw [o1 _ _ _ _ (9 + 5 * hrr (s 83) z + z % 4) (by omega) (by omega) (by omega), o1 _ _ _ _ (8 + 5 * hrr (s 83) z) (by omega) (by omega) (by omega), o2, o38]
    refine PIS kk ?_ ?_
    · rw [est, upd_nj (by omega), upd_nj (by omega), upd_eq]
    · symm
      funext x j
      by_cases hx : x = 83
      · subst hx
        rw [mdo_83]
        unfold mdf
        by_cases j4 : j = 4
        · subst j4
          rw [upd_eq, if_neg (by omega), if_pos rfl, upd_nj (by omega), o1 _ _ _ _ 4 (by omega) (by omega) (by omega), if_pos z8]
        · rw [upd_nj j4]
          by_cases j1 : j = 1
          · subst j1
            rw [upd_eq, if_neg (by omega), if_neg (by omega), upd_nj (by omega), o1 _ _ _ _ 1 (by omega) (by omega) (by omega)]
            unfold stp
            rw [if_pos z8, setf_e]
          · rw [upd_nj j1]
            by_cases jA : j = 9 + 5 * hrr (s 83) z + z % 4
            · rw [jA, upd_eq, if_neg (by omega), if_neg (by omega), est]
            · rw [upd_nj jA, nts_83]
              by_cases j3 : j = 3 ∨ 38 ≤ j
              · rw [if_pos j3]
                have eE : nE z = 1 := by unfold nE; rw [if_pos z8]
                have eAA : nA (s 83) z = 9 + 5 * hrr (s 83) z + z % 4 := by unfold nA; rw [if_pos z8]
                have eB : nB (s 83) z = s 83 (9 + 5 * hrr (s 83) z + z % 4) := by unfold nB; rw [if_pos z8]
                rw [eE, eAA, eB]
              · rw [if_neg j3, if_neg j4, ntf_o (by omega) (by omega)]
                unfold stp
                rw [if_pos z8, setf_o j1, setf_o jA]
      · rw [mdo_o hx, upd_nc hx, upd_nc hx, upd_nc hx, nts_o hx]
theorem sp_brings (n0 : 0 ≤ s 83 3) (n4 : s 83 3 < 40) (kk : P (some (vI (s 83 1))) (mdo s 8)) : Cl X (d + 1) 210 [vR 77] s P := by
  apply t_X6_brings <;> intros
  all_goals first | omega | skip
  refine PS kk ?_
  funext x j
  by_cases hx : x = 83
  · subst hx
    rw [mdo_83]
    unfold mdf
    by_cases j1 : j = 1
    · subst j1
      rw [upd_eq, if_neg (by omega), if_neg (by omega), nts_83, ntf_o (by omega) (by omega)]
      unfold stp
      rw [if_neg (by decide), if_pos rfl, setf_e]
    · rw [upd_nj j1, nts_83]
      by_cases j3 : j = 3 ∨ 38 ≤ j
      · rw [if_pos j3]
        rfl
      · rw [if_neg j3, ntf_o (by omega) (by omega)]
        by_cases j4 : j = 4
        · subst j4
          rw [if_pos rfl, if_neg (by decide), Int.add_zero]
        · rw [if_neg j4]
          unfold stp
          rw [if_neg (by decide), if_pos rfl, setf_o j1]
  · rw [mdo_o hx, upd_nc hx, nts_o hx]
end SPDB
