/-! calls side by side: deeds -/
theorem J_9 {s : m_St} (h : J s) : s 83 3 = s 38 9 ∧ 0 ≤ s 38 9 ∧ s 38 9 ≤ 40 := ⟨h.2.2.2.1.2.1.2.2.1, h.2.2.2.1.2.1.1, h.2.2.2.1.2.1.2.1⟩
theorem acs_v {s : m_St} {d : Int} (h : J s) (hd : dok (s 83) d) : rep (acs s d) (stp (s 38 5) (s 83) d) ∧ hok (stp (s 38 5) (s 83) d) ∧ (∀ c j, ¬ hcell c j → ¬ c = 41 → ¬ (c = 38 ∧ j = 9) → acs s d c j = s c j) ∧ acs s d 38 9 = s 38 9 + 1 := by
  obtain ⟨hr, hmk⟩ := h.v
  have hd0 := hd.1
  have u1 : ∀ c j, ¬ (c = 41 ∧ j = s 38 9) → ¬ (c = 38 ∧ j = 9) → m_upd (m_upd s 41 (s 38 9) d) 38 9 (s 38 9 + 1) c j = s c j := fun c j h1 h2 => by rw [upd_o2 h2, upd_o2 h1]
  have rr : rep (m_upd (m_upd s 41 (s 38 9) d) 38 9 (s 38 9 + 1)) (s 83) := by
    unfold rep at hr ⊢
    rw [u1 38 3 (by omega) (by omega), u1 38 6 (by omega) (by omega), u1 38 4 (by omega) (by omega), u1 38 7 (by omega) (by omega), u1 38 8 (by omega) (by omega)]
    obtain ⟨b1, b2, b3, b4, b5, b6, b7⟩ := hr
    refine ⟨b1, b2, b3, b4, b5, fun i i0 i6 => gok_cong (fun j => u1 _ _ (by omega) (by omega)) (fun j => u1 _ _ (by omega) (by omega)) (b6 i i0 i6), fun i i0 i1 => ?_⟩
    have i6 : i < 6 := by have := hmk.1.2.1; omega
    obtain ⟨y1, y2⟩ := b7 i i0 i1
    rw [u1 (44 + 4 * i) 1 (by omega) (by omega)]
    refine ⟨y1, fun c c0 c1 => ?_⟩
    rw [u1 (44 + 4 * i + 1) c (by omega) (by omega)]
    exact y2 c c0 c1
  have ru : d < 8 → 0 ≤ (m_upd (m_upd s 41 (s 38 9) d) 38 9 (s 38 9 + 1)) 38 7 ∧ (m_upd (m_upd s 41 (s 38 9) d) 38 9 (s 38 9 + 1)) 38 7 < 6 ∧ 0 ≤ (m_upd (m_upd s 41 (s 38 9) d) 38 9 (s 38 9 + 1)) 38 8 ∧ (m_upd (m_upd s 41 (s 38 9) d) 38 9 (s 38 9 + 1)) 38 8 < 6 := fun h8 => by
    rw [rr.2.2.2.1, rr.2.2.2.2.1]
    obtain ⟨k1, k2, k3, k4, k5, k6, k7, k8, k9, k10, k11, k12⟩ := hmk.1
    have := (hd.2.2.1 h8).1
    omega
  have rp := rep_pf rr hmk.1 hd
  rw [u1 38 5 (by omega) (by omega)] at rp
  refine ⟨rp, stp_ok hmk.1 hd, fun c j h1 h2 h3 => ?_, ?_⟩
  · show pf _ d c j = _
    rw [pf_o hd0 ru h1, u1 c j (by omega) (by omega)]
  · show pf _ d 38 9 = _
    rw [pf_9 (fun h8 => ⟨(ru h8).1, (ru h8).2.2.1⟩), upd_eq]
theorem acs_83 {s : m_St} {d : Int} (h : J s) (hd : dok (s 83) d) : acs s d 83 = s 83 ∧ acs s d 38 5 = s 38 5 := by
  obtain ⟨_, _, f, _⟩ := acs_v h hd
  exact ⟨funext fun j => f 83 j (by unfold hcell; omega) (by decide) (by omega), f 38 5 (by unfold hcell; omega) (by decide) (by omega)⟩
theorem csh_cb {s : m_St} {z : Int} (h : J s) (hu : ¬ s 38 7 = -1) (z0 : 0 ≤ z) (z8 : z < 8) : csh s z = cbM (s 83) z := by
  obtain ⟨_, _, e7, e8, l7, l8⟩ := J_up h hu
  obtain ⟨u0, u6, v0, v6, _⟩ := (J_up h hu).1
  have hb : ∀ x : Int, iAnd (iShr x (z % 4)) 1 = 0 ∨ iAnd (iShr x (z % 4)) 1 = 1 := fun x => by
    rw [bit_of (by omega) (by omega)]
    cases bt x (z % 4).toNat
    · exact Or.inl rfl
    · exact Or.inr rfl
  unfold csh cbM
  rw [if_neg hu]
  by_cases h4 : z < 4
  · rw [if_pos h4, show 5 + z / 4 = 5 by omega, h.v.h u0 l7, e7]
    rcases hb (hld (s 83) (s 83 5 - 1)) with e | e
    · rw [if_pos e, if_neg (by omega)]
    · rw [if_neg (by omega), if_pos e]
  · rw [if_neg h4, show 5 + z / 4 = 6 by omega, h.v.h v0 l8, e8]
    rcases hb (hld (s 83) (s 83 6 - 1)) with e | e
    · rw [if_pos e, if_neg (by omega)]
    · rw [if_neg (by omega), if_pos e]
theorem J_ug {s : m_St} (h : J s) : ugk s := by
  by_cases hu : s 38 7 = -1
  · exact Or.inr hu
  · exact Or.inl (J_up h hu).1
section OPG
variable {X : List Int32} {d : Nat} {s : m_St} {i j k z n : Int}
theorem op_wood (h : J s) : Cl X (d + 20) 89 [vR 0] s (Pw X (d + 20) 208 [vR 77]) := by
  have h7 := J_7 h
  have h9 := J_9 h
  have hv := h.v
  obtain ⟨r0, r1, r2, r3, r4, r5, r6⟩ := hv.1
  have hgk := r5
  obtain ⟨k1, k2, k3, k4, k5, k6, k7, k8, k9, k10, k11, k12⟩ := hv.2.1
  have hd : dok (s 83) 8 := ⟨by omega, by omega, fun z => by omega, fun z => by omega⟩
  obtain ⟨a83, a5⟩ := acs_83 h hd
  have e0 : acs s 8 83 0 = s 83 0 := by rw [a83]
  have e1 : acs s 8 83 1 = s 83 1 := by rw [a83]
  have e2 : acs s 8 83 2 = s 83 2 := by rw [a83]
  have e3 : acs s 8 83 3 = s 83 3 := by rw [a83]
  apply t_X5_wood <;> intros
  all_goals first | omega | exact hgk _ (by assumption) (by assumption) | skip
  · refine Pw_mk ?_
    apply t_X6_wood <;> intros
    all_goals first | omega | exact ⟨rfl, h⟩
  · refine Pw_mk ?_
    apply t_X6_wood <;> intros
    all_goals first | omega | exact ⟨rfl, h⟩
  · refine Pw_mk ?_
    apply t_X6_wood <;> intros
    all_goals first | omega | exact ⟨by rw [e1, r1], J_deed h (by omega) hd⟩
  · refine Pw_mk ?_
    apply t_X6_wood <;> intros
    all_goals first | omega | exact ⟨rfl, h⟩
theorem op_say (h : J s) (rz : inR z) : Cl X (d + 20) 85 [vR 0, vI z] s (Pw X (d + 20) 203 [vR 77, vI z]) := by
  have h7 := J_7 h
  have h9 := J_9 h
  have hv := h.v
  obtain ⟨r0, r1, r2, r3, r4, r5, r6⟩ := hv.1
  have hgk := r5
  obtain ⟨k1, k2, k3, k4, k5, k6, k7, k8, k9, k10, k11, k12⟩ := hv.2.1
  have noP : ∀ v, (s 83 5 ≤ 0 ∨ cbM (s 83) z = 0) → 0 ≤ z → z < 8 → v = -4 → Pw X (d + 20) 203 [vR 77, vI z] (some (vI v)) s := fun v hc z0 z8 hv4 => by
    subst hv4
    refine Pw_mk ?_
    apply t_X6_say <;> intros
    all_goals first | exact rz | omega | exact ⟨rfl, h⟩ | exact ⟨hv.2, by omega⟩
  by_cases hb : 0 ≤ z ∧ z < 8
  · obtain ⟨z0, z8⟩ := hb
    by_cases hu : s 38 7 = -1
    · have hc0 : csh s z = 0 := by unfold csh; rw [if_pos hu]
      apply t_X5_say <;> intros
      all_goals first | exact rz | omega | exact Or.inr hu | exact noP _ (Or.inl (by omega)) z0 z8 rfl
    · obtain ⟨hup, huk, e7, e8, l7, l8⟩ := J_up h hu
      have hcc := csh_cb h hu z0 z8
      by_cases hc : csh s z = 0
      · apply t_X5_say <;> intros
        all_goals first | exact rz | omega | exact Or.inl hup | exact noP _ (Or.inr (by omega)) z0 z8 rfl
      · by_cases hw : 0 < s 38 6
        · by_cases hn : s 38 9 + 1 ≤ 40
          · have hd : dok (s 83) z := ⟨z0, by omega, fun _ => ⟨by omega, by omega⟩, fun z9 => by omega⟩
            obtain ⟨a83, a5⟩ := acs_83 h hd
            obtain ⟨p1, p2, p3, p4⟩ := acs_v h hd
            obtain ⟨q0, q1, q2, q3, q4, q5, q6⟩ := p1
            have s5 : stp (s 38 5) (s 83) z 5 = s 83 5 := by
              have := (hrr_r hv.2.1 hd z8).1
              unfold stp
              rw [if_pos z8, setf_o (by decide), setf_o (by omega)]
            have s6 : stp (s 38 5) (s 83) z 6 = s 83 6 := by
              have := (hrr_r hv.2.1 hd z8).1
              unfold stp
              rw [if_pos z8, setf_o (by decide), setf_o (by omega)]
            have s0 : stp (s 38 5) (s 83) z 0 = s 83 0 := stp_k hv.2.1 hd (Or.inl rfl)
            have fin : ∀ v, v = stp (s 38 5) (s 83) z (9 + 5 * hrr (s 83) z + z % 4) → Pw X (d + 20) 203 [vR 77, vI z] (some (vI v)) (acs s z) := fun v hv2 => by
              subst hv2
              refine Pw_mk ?_
              have x0 : acs s z 83 0 = s 83 0 := by rw [a83]
              have x1 : acs s z 83 1 = s 83 1 := by rw [a83]
              have x3 : acs s z 83 3 = s 83 3 := by rw [a83]
              have x5 : acs s z 83 5 = s 83 5 := by rw [a83]
              have xc : cbM (acs s z 83) z = cbM (s 83) z := by rw [a83]
              have xu : uok (acs s z) := by unfold uok mok; rw [a83, a5]; exact huk
              apply t_X6_say <;> intros
              all_goals first | exact rz | omega | exact xu | exact ⟨by rw [a83, a5], J_deed h (by omega) hd⟩
            apply t_X5_say <;> intros
            all_goals first | exact rz | exact Or.inl hup | exact hup | exact hgk _ (by assumption) (by assumption) | omega | skip
            · refine fin _ ?_
              rw [q3, s5, (q6 (s 83 5 - 1) (by omega) (by omega)).2 (z % 4) (by omega) (by omega)]
              unfold hrr
              rw [if_neg (by omega)]
            · refine fin _ ?_
              rw [q4, s6, (q6 (s 83 6 - 1) (by omega) (by omega)).2 (z % 4) (by omega) (by omega)]
              unfold hrr
              rw [if_pos (by omega)]
          · apply t_X5_say <;> intros
            all_goals first | exact rz | exact Or.inl hup | exact hup | exact hgk _ (by assumption) (by assumption) | omega | skip
            refine Pw_mk ?_
            apply t_X6_say <;> intros
            all_goals first | exact rz | omega | exact huk | exact ⟨rfl, h⟩
        · apply t_X5_say <;> intros
          all_goals first | exact rz | exact Or.inl hup | exact hup | exact hgk _ (by assumption) (by assumption) | omega | skip
          refine Pw_mk ?_
          apply t_X6_say <;> intros
          all_goals first | exact rz | omega | exact huk | exact ⟨rfl, h⟩
  · apply t_X5_say <;> intros
    all_goals first | exact rz | omega | skip
    all_goals refine Pw_mk ?_
    all_goals (apply t_X6_say <;> intros)
    all_goals first | exact rz | omega | exact ⟨rfl, h⟩
end OPG
