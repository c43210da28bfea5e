section OPH
variable {X : List Int32} {d : Nat} {s : m_St} {i j k z n : Int}
theorem mdo_send {x : m_St} (i0 : 0 ≤ i) (j0 : 0 ≤ j) (j6 : j < 6) (n0 : 0 ≤ x 83 3) : m_upd (m_upd (nts x 0 (x 83 5) (x 83 6) 0) 83 5 (i + 1)) 83 6 (j + 1) = mdo x (9 + 6 * i + j) := by
  have h8 : ¬ 9 + 6 * i + j < 8 := by omega
  have h9 : ¬ 9 + 6 * i + j = 8 := by omega
  funext c q
  by_cases hx : c = 83
  · subst hx
    rw [mdo_83]
    unfold mdf
    by_cases q6 : q = 6
    · subst q6
      rw [upd_eq, if_neg (by omega), if_neg (by omega)]
      unfold stp
      rw [if_neg h8, if_neg h9, setf_e]
      omega
    · rw [upd_nj q6]
      by_cases q5 : q = 5
      · subst q5
        rw [upd_eq, if_neg (by omega), if_neg (by omega)]
        unfold stp
        rw [if_neg h8, if_neg h9, setf_o (by decide), setf_e]
        omega
      · rw [upd_nj q5, nts_83]
        by_cases q3 : q = 3 ∨ 38 ≤ q
        · rw [if_pos q3]
          have eE : nE (9 + 6 * i + j) = 0 := by unfold nE; rw [if_neg h8, if_neg h9]
          have eA : nA (x 83) (9 + 6 * i + j) = x 83 5 := by unfold nA; rw [if_neg h8, if_neg h9]
          have eB : nB (x 83) (9 + 6 * i + j) = x 83 6 := by unfold nB; rw [if_neg h8, if_neg h9]
          rw [eE, eA, eB]
        · rw [if_neg q3, ntf_o (by omega) (by omega)]
          by_cases q4 : q = 4
          · subst q4
            rw [if_pos rfl, if_neg h8, Int.add_zero]
          · rw [if_neg q4]
            unfold stp
            rw [if_neg h8, if_neg h9, setf_o q6, setf_o q5]
  · rw [mdo_o hx, upd_nc hx, upd_nc hx, nts_o hx]
theorem shd_J {t : m_St} (h : J t) (hu : ¬ t 38 7 = -1) : shd t = iAnd (hld (t 83) (t 83 (5 + 0) - 1)) (hld (t 83) (t 83 (5 + 1) - 1)) := by
  obtain ⟨⟨u0, u6, v0, v6, hg⟩, hk, e7, e8, l7, l8⟩ := J_up h hu
  unfold shd
  rw [h.v.h u0 l7, h.v.h v0 l8, e7, e8]
  rfl
theorem op_send (h : J s) (ri : inR i) (rj : inR j) : Cl X (d + 20) 79 [vR 0, vI i, vI j] s (Pw X (d + 20) 199 [vR 77, vI i, vI j]) := by
  have h7 := J_7 h
  have h9 := J_9 h
  have hv := h.v
  obtain ⟨r0, r1, r2, r3, r4, r5, r6⟩ := hv.1
  have hgk := r5
  obtain ⟨k1, k2, k3, k4, k5, k6, k7, k8, k9, k10, k11, k12⟩ := hv.2.1
  have bad : ∀ v, (v = -1 → (i < 0 ∨ s 83 0 ≤ i ∨ j < 0 ∨ s 83 0 ≤ j ∨ i = j)) → (v = -4 → 0 ≤ i ∧ i < s 83 0 ∧ 0 ≤ j ∧ j < s 83 0 ∧ ¬ i = j ∧ s 83 5 = i + 1 ∧ s 83 6 = j + 1) → (v = -2 → 0 ≤ i ∧ i < s 83 0 ∧ 0 ≤ j ∧ j < s 83 0 ∧ ¬ i = j ∧ ¬ (s 83 5 = i + 1 ∧ s 83 6 = j + 1) ∧ s 83 3 = 40) → (v = -1 ∨ v = -4 ∨ v = -2) → Pw X (d + 20) 199 [vR 77, vI i, vI j] (some (vI v)) s := by
    intro v c1 c2 c3 c4
    refine Pw_mk ?_
    rcases c4 with rfl | rfl | rfl
    · have c1 := c1 rfl
      clear c2 c3
      apply t_X6_send <;> intros
      all_goals first | exact ri | exact rj | omega | exact ⟨rfl, h⟩
    · have c2 := c2 rfl
      clear c1 c3
      apply t_X6_send <;> intros
      all_goals first | exact ri | exact rj | omega | exact ⟨rfl, h⟩
    · have c3 := c3 rfl
      clear c1 c2
      apply t_X6_send <;> intros
      all_goals first | exact ri | exact rj | omega | exact ⟨rfl, h⟩
  have b1 : (i < 0 ∨ s 83 0 ≤ i ∨ j < 0 ∨ s 83 0 ≤ j ∨ i = j) → Pw X (d + 20) 199 [vR 77, vI i, vI j] (some (vI (-1))) s := fun q => bad (-1) (fun _ => q) (fun z => absurd z (by decide)) (fun z => absurd z (by decide)) (Or.inl rfl)
  have b4 : (0 ≤ i ∧ i < s 83 0 ∧ 0 ≤ j ∧ j < s 83 0 ∧ ¬ i = j ∧ s 83 5 = i + 1 ∧ s 83 6 = j + 1) → Pw X (d + 20) 199 [vR 77, vI i, vI j] (some (vI (-4))) s := fun q => bad (-4) (fun z => absurd z (by decide)) (fun _ => q) (fun z => absurd z (by decide)) (Or.inr (Or.inl rfl))
  have b2 : (0 ≤ i ∧ i < s 83 0 ∧ 0 ≤ j ∧ j < s 83 0 ∧ ¬ i = j ∧ ¬ (s 83 5 = i + 1 ∧ s 83 6 = j + 1) ∧ s 83 3 = 40) → Pw X (d + 20) 199 [vR 77, vI i, vI j] (some (vI (-2))) s := fun q => bad (-2) (fun z => absurd z (by decide)) (fun z => absurd z (by decide)) (fun _ => q) (Or.inr (Or.inr rfl))
  clear bad
  by_cases hb1 : i < 0 ∨ s 83 0 ≤ i ∨ j < 0 ∨ s 83 0 ≤ j ∨ i = j
  · have fin := b1 hb1
    clear b1 b2 b4
    apply t_X5_send <;> intros
    all_goals first | exact ri | exact rj | exact fin | omega
  by_cases hb2 : s 83 5 = i + 1 ∧ s 83 6 = j + 1
  · have fin := b4 ⟨by omega, by omega, by omega, by omega, by omega, hb2⟩
    clear b1 b2 b4
    apply t_X5_send <;> intros
    all_goals first | exact ri | exact rj | exact fin | omega
  by_cases hb3 : s 38 9 < 40
  · obtain ⟨i0, i1, j0, j1, hne, hnu, hn⟩ : 0 ≤ i ∧ i < s 83 0 ∧ 0 ≤ j ∧ j < s 83 0 ∧ ¬ i = j ∧ ¬ (s 83 5 = i + 1 ∧ s 83 6 = j + 1) ∧ s 38 9 < 40 := ⟨by omega, by omega, by omega, by omega, by omega, hb2, hb3⟩
    clear b1 b2 b4 hb1 hb2 hb3
    have hd : dok (s 83) (9 + 6 * i + j) := ⟨by omega, by omega, fun _ => by omega, fun _ => ⟨by omega, by omega⟩⟩
    obtain ⟨a83, a5⟩ := acs_83 h hd
    obtain ⟨p1, p2, p3, p4⟩ := acs_v h hd
    have J2 := J_deed h hn hd
    have s5 : stp (s 38 5) (s 83) (9 + 6 * i + j) 5 = i + 1 := by
      unfold stp
      rw [if_neg (by omega), if_neg (by omega), setf_o (by decide), setf_e]
      omega
    have e7 : acs s (9 + 6 * i + j) 38 7 = i := by rw [p1.2.2.2.1, s5]; omega
    have f7 : mdo (acs s (9 + 6 * i + j)) (9 + 6 * i + j) 38 7 = i := by rw [mdo_o (by decide)]; exact e7
    obtain ⟨w1, w2, w3, w4, w5, w6⟩ := J_up J2 (by rw [f7]; omega)
    have upa : upk (acs s (9 + 6 * i + j)) := by
      obtain ⟨y1, y2, y3, y4, y5⟩ := w1
      rw [mdo_o (by decide)] at y1 y2 y3 y4
      exact ⟨y1, y2, y3, y4, fun q q0 q6 => gok_cong (fun _ => (mdo_o (by omega)).symm) (fun _ => (mdo_o (by omega)).symm) (y5 q q0 q6)⟩
    have es : shd (acs s (9 + 6 * i + j)) = shd (mdo (acs s (9 + 6 * i + j)) (9 + 6 * i + j)) := by
      unfold shd
      obtain ⟨y1, y2, y3, y4, y5⟩ := upa
      rw [mdo_o (x := 38) (by decide), mdo_o (x := 38) (by decide), mdo_o (by omega), mdo_o (by omega)]
    have fin : Pw X (d + 20) 199 [vR 77, vI i, vI j] (some (vI (shd (acs s (9 + 6 * i + j))))) (acs s (9 + 6 * i + j)) := by
      refine Pw_mk ?_
      have x0 : acs s (9 + 6 * i + j) 83 0 = s 83 0 := by rw [a83]
      have x3 : acs s (9 + 6 * i + j) 83 3 = s 83 3 := by rw [a83]
      have x5 : acs s (9 + 6 * i + j) 83 5 = s 83 5 := by rw [a83]
      have x6 : acs s (9 + 6 * i + j) 83 6 = s 83 6 := by rw [a83]
      have em := mdo_send (x := acs s (9 + 6 * i + j)) i0 j0 (show j < 6 by omega) (by omega)
      have um : uok (m_upd (m_upd (nts (acs s (9 + 6 * i + j)) 0 (acs s (9 + 6 * i + j) 83 5) (acs s (9 + 6 * i + j) 83 6) 0) 83 5 (i + 1)) 83 6 (j + 1)) := by rw [em]; exact w2
      have val := shd_J J2 (by rw [f7]; omega)
      apply t_X6_send <;> intros
      all_goals first | exact ri | exact rj | omega | exact um | (rw [em]; exact ⟨by rw [es, val], J2⟩)
    have w : ¬ s 38 9 + 1 ≤ 40 → False := fun z => by omega
    apply t_X5_send <;> intros
    all_goals first | exact ri | exact rj | exact hgk _ (by assumption) (by assumption) | exact upa | exact fin | omega
  · have fin := b2 ⟨by omega, by omega, by omega, by omega, by omega, hb2, by omega⟩
    clear b1 b2 b4
    apply t_X5_send <;> intros
    all_goals first | exact ri | exact rj | exact fin | omega
end OPH
