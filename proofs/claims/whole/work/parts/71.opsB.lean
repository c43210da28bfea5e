section OPB
variable {X : List Int32} {d : Nat} {s : m_St} {r j v n t k : Int}
theorem Jr_b (h : J s) : 0 ≤ r → r < 6 → -1 ≤ s 2 r ∧ s 2 r ≤ 40 ∧ s 78 r = s 2 r := fun a b => let q := h.1.2 r a b; ⟨q.1, q.2.1, q.2.2.1⟩
theorem Jt_b (h : J s) : 0 ≤ t → t < 4 → -1 ≤ s 11 t ∧ s 11 t ≤ 60 ∧ s 81 t = s 11 t := fun a b => let q := h.2.1.2 t a b; ⟨q.1, q.2.1, q.2.2.1⟩
theorem fnd78 {c a : Int} (f : Int) (h : ¬ c = 0) (h2 : ¬ c = 76) : m_upd (m_upd s 0 8 f) 76 f (s 76 f + 1) c a = s c a := fnd_o h h2
theorem op_at (h : J s) (rr : inR r) (rj : inR j) : Cl X (d + 20) 21 [vR 0, vI r, vI j] s (Pw X (d + 20) 164 [vR 77, vI r, vI j]) := by
  have hr := Jr_b (r := r) h
  have e1 := fnd78 (s := s) (c := 78) (a := r) 1 (by decide) (by decide)
  have e2 := fnd78 (s := s) (c := 78) (a := r) 2 (by decide) (by decide)
  have eT : m_upd s 0 9 (s (4 + r) j) 78 r = s 78 r := upd_nc (by decide)
  apply t_X5_at <;> intros
  all_goals first | exact rr | exact rj | omega | skip
  all_goals refine Pw_mk ?_
  all_goals (apply t_X6_at <;> intros)
  all_goals first | exact rr | exact rj | omega | exact ⟨rfl, h⟩ | exact ⟨rfl, J_fnd h (by decide) (by decide)⟩ | skip
  refine ⟨rfl, J_tell h ?_⟩
  rw [upd_nc (by decide)]
  exact ((h.1.2 r (by omega) (by omega)).2.2.2 j (by omega) (by omega)).2
theorem op_tear (h : J s) (rr : inR r) : Cl X (d + 20) 22 [vR 0, vI r] s (Pw X (d + 20) 166 [vR 77, vI r]) := by
  have hr := Jr_b (r := r) h
  have e1 := fnd78 (s := s) (c := 78) (a := r) 1 (by decide) (by decide)
  have eT : m_upd s 2 r (-1) 78 r = s 78 r := upd_nc (by decide)
  apply t_X5_tear <;> intros
  all_goals first | exact rr | omega | skip
  all_goals refine Pw_mk ?_
  all_goals (apply t_X6_tear <;> intros)
  all_goals first | exact rr | omega | exact ⟨rfl, h⟩ | exact ⟨rfl, J_fnd h (by decide) (by decide)⟩ | skip
  refine ⟨rfl, J_row (r := r) h (fun c j q1 q2 q3 q4 q5 => by rw [upd_o2 q3, upd_o2 q1]) (by omega) (by omega) ?_ ?_ ?_ (fun j j0 j1 => ?_)⟩
  · rw [upd_nc (by decide), upd_eq]; omega
  · rw [upd_nc (by decide), upd_eq]; omega
  · rw [upd_eq, upd_nc (by decide), upd_eq]
  · rw [upd_nc (by decide), upd_eq] at j1
    omega
theorem op_lay (h : J s) (rr : inR r) (rj : inR j) (rv : inR v) : Cl X (d + 20) 12 [vR 0, vI r, vI j, vI v] s (Pw X (d + 20) 163 [vR 77, vI r, vI j, vI v]) := by
  have hr := Jr_b (r := r) h
  have e1 := fnd78 (s := s) (c := 78) (a := r) 1 (by decide) (by decide)
  have e2 := fnd78 (s := s) (c := 78) (a := r) 2 (by decide) (by decide)
  apply t_X5_lay <;> intros
  all_goals first | exact rr | exact rj | omega | skip
  all_goals refine Pw_mk ?_
  · apply t_X6_lay <;> intros
    all_goals first | exact rr | exact rj | omega | exact ⟨rfl, h⟩
  · apply t_X6_lay <;> intros
    all_goals first | exact rr | exact rj | omega | exact ⟨rfl, h⟩
  · apply t_X6_lay <;> intros
    all_goals first | exact rr | exact rj | omega | exact ⟨rfl, J_fnd h (by decide) (by decide)⟩
  · apply t_X6_lay <;> intros
    all_goals first | exact rr | exact rj | omega | exact ⟨rfl, J_fnd h (by decide) (by decide)⟩
  · apply t_X6_lay <;> intros
    all_goals first | exact rr | exact rj | omega | exact ⟨rfl, J_fnd h (by decide) (by decide)⟩
  · next g1 g2 g3 g4 g5 =>
    have e78 : m_upd (m_upd s (4 + r) j v) 0 9 (s (4 + r) j) 78 r = s 78 r := by rw [upd_nc (by decide), upd_nc (by omega)]
    apply t_X6_lay <;> intros
    all_goals first | exact rr | exact rj | omega | skip
    refine ⟨rfl, ?_⟩
    have a4 := (h.1.2 r (by omega) (by omega)).2.2.2
    have J1 := J_tell (v := s (4 + r) j) h rfl
    have ev : m_upd (m_upd s (4 + r) j v) 0 9 (s (4 + r) j) 79 (40 * r + j) = s (4 + r) j := by rw [upd_nc (by decide), upd_nc (by omega)]; exact (a4 j (by omega) (by omega)).2
    rw [ev]
    refine J_row (r := r) J1 (fun c i q1 q2 q3 q4 q5 => ?_) (by omega) (by omega) ?_ ?_ ?_ (fun i i0 i1 => ?_)
    · rw [upd_o2 (a := c) (by omega)]
      by_cases hc : c = 77 ∧ i = 11
      · rw [hc.1, hc.2, upd_eq, upd_eq]
      · rw [upd_o2 hc, upd_o2 hc]
        by_cases hc2 : c = 0 ∧ i = 9
        · rw [hc2.1, hc2.2, upd_eq, upd_eq]
        · rw [upd_o2 hc2, upd_o2 hc2, upd_nc q2]
    · rw [upd_nc (by decide), upd_nc (by decide), upd_nc (by decide), upd_nc (by omega)]; omega
    · rw [upd_nc (by decide), upd_nc (by decide), upd_nc (by decide), upd_nc (by omega)]; omega
    · rw [upd_nc (by decide), upd_nc (by decide), upd_nc (by decide), upd_nc (by omega), upd_nc (by decide), upd_nc (by decide), upd_nc (by decide), upd_nc (by omega)]; omega
    · rw [upd_nc (by decide), upd_nc (by decide), upd_nc (by decide), upd_nc (by omega)] at i1
      rw [upd_nc (c' := 4 + r) (by omega), upd_nc (c' := 4 + r) (by omega), upd_nc (c' := 4 + r) (by omega)]
      by_cases hij : i = j
      · subst hij
        rw [upd_eq, upd_eq]
        exact ⟨rv, rfl⟩
      · rw [upd_nj hij, upd_nj (by omega), upd_nc (by decide), upd_nc (by decide), upd_nc (by omega)]
        exact a4 i i0 i1
theorem op_asked (h : J s) : Cl X (d + 20) 144 [vR 0] s (Pw X (d + 20) 247 [vR 77]) := by
  apply t_X5_asked
  refine Pw_mk ?_
  apply t_X6_asked
  exact ⟨by rw [h.2.2.1.2.1], h⟩
theorem op_upper (h : J s) : Cl X (d + 20) 145 [vR 0] s (PwJ X (d + 20) 248 [vR 77]) := by
  apply t_X5_upper
  refine PwJ_mk ?_
  apply t_X6_upper
  exact ⟨by rw [h.2.2.1.2.2.1], h⟩
theorem op_lower (h : J s) : Cl X (d + 20) 146 [vR 0] s (PwJ X (d + 20) 249 [vR 77]) := by
  apply t_X5_lower
  refine PwJ_mk ?_
  apply t_X6_lower
  exact ⟨by rw [h.2.2.1.2.2.2.1], h⟩
theorem op_finding (h : J s) : Cl X (d + 20) 153 [vR 0] s (Pw X (d + 20) 252 [vR 77]) := by
  apply t_X5_finding
  refine Pw_mk ?_
  apply t_X6_finding
  exact ⟨by rw [h.2.2.1.1], h⟩
theorem op_findings (h : J s) (rj : inR j) : Cl X (d + 20) 154 [vR 0, vI j] s (Pw X (d + 20) 253 [vR 77, vI j]) := by
  apply t_X5_findings <;> intros
  all_goals first | exact rj | omega | skip
  all_goals refine Pw_mk ?_
  all_goals (apply t_X6_findings <;> intros)
  all_goals first | exact rj | omega | exact ⟨rfl, h⟩ | skip
  exact ⟨by rw [h.2.2.1.2.2.2.2 j (by omega) (by omega)], h⟩
end OPB
