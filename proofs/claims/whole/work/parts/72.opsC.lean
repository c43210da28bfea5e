theorem oJ_lt {a b : Int} (ha : inJ a) (hb : inJ b) : Int64.ofInt a < Int64.ofInt b ↔ a < b := by rw [Int64.lt_iff_toInt_lt, oJ_toInt ha, oJ_toInt hb]
theorem cmpJ_p {a b : Int} (ha : inJ a) (hb : inJ b) : 0 < cmpJ a b ↔ b < a := by
  have e := oJ_lt hb ha
  unfold cmpJ lg_cmp
  by_cases h : b < a
  · rw [if_pos (e.mpr h)]
    exact ⟨fun _ => h, fun _ => by decide⟩
  · rw [if_neg (fun z => h (e.mp z))]
    refine ⟨fun z => ?_, fun z => absurd z h⟩
    exfalso
    revert z
    by_cases h2 : Int64.ofInt a = Int64.ofInt b
    · rw [if_pos h2]; decide
    · rw [if_neg h2]; decide
/-- one text changed -/
theorem Jt_set {s t : m_St} {r : Int} (h : Jt s) (e : ∀ c j, uT c j → ¬ (c = 11 ∧ j = r) → ¬ c = 13 + r → ¬ (c = 81 ∧ j = r) → ¬ (c = 82 ∧ 60 * r ≤ j ∧ j < 60 * r + 60) → t c j = s c j) (h0 : 0 ≤ r) (h4 : r < 4) (n0 : -1 ≤ t 11 r) (n4 : t 11 r ≤ 60) (em : t 81 r = t 11 r) (ej : ∀ j, 0 ≤ j → j < t 11 r → -128 ≤ t (13 + r) j ∧ t (13 + r) j ≤ 127 ∧ t 82 (60 * r + j) = t (13 + r) j) : Jt t := by
  obtain ⟨h1, h2⟩ := h
  refine ⟨by rw [e 10 2 (Or.inl ⟨rfl, rfl⟩) (by omega) (by omega) (by omega) (by omega)]; exact h1, fun q q0 q6 => ?_⟩
  by_cases hq : q = r
  · subst hq
    exact ⟨n0, n4, em, ej⟩
  · obtain ⟨a1, a2, a3, a4⟩ := h2 q q0 q6
    have e2 : t 11 q = s 11 q := e _ _ (Or.inr (Or.inl rfl)) (by omega) (by omega) (by omega) (by omega)
    rw [e2, e 81 q (by unfold uT; omega) (by omega) (by omega) (by omega) (by omega)]
    refine ⟨a1, a2, a3, fun j j0 j1 => ?_⟩
    rw [e (13 + q) j (by unfold uT; omega) (by omega) (by omega) (by omega) (by omega), e 82 _ (by unfold uT; omega) (by omega) (by omega) (by omega) (by omega)]
    exact a4 j j0 j1
theorem J_text {s t : m_St} {r : Int} (h : J s) (e : ∀ c j, ¬ (c = 11 ∧ j = r) → ¬ c = 13 + r → ¬ (c = 81 ∧ j = r) → ¬ (c = 82 ∧ 60 * r ≤ j ∧ j < 60 * r + 60) → t c j = s c j) (h0 : 0 ≤ r) (h4 : r < 4) (n0 : -1 ≤ t 11 r) (n4 : t 11 r ≤ 60) (em : t 81 r = t 11 r) (ej : ∀ j, 0 ≤ j → j < t 11 r → -128 ≤ t (13 + r) j ∧ t (13 + r) j ≤ 127 ∧ t 82 (60 * r + j) = t (13 + r) j) : J t := by
  obtain ⟨a1, a2, a3, a4, a5, a6⟩ := h
  refine ⟨?_, Jt_set a2 (fun c j _ q1 q2 q3 q4 => e c j q1 q2 q3 q4) h0 h4 n0 n4 em ej, ?_, ?_, ?_, ?_⟩
  · exact Jr_cong (fun c j hc => by unfold uR at hc; exact e c j (by omega) (by omega) (by omega) (by omega)) a1
  · exact Jf_cong (fun c j hc => by unfold uF at hc; exact e c j (by omega) (by omega) (by omega) (by omega)) a3
  · exact Jh_cong (fun c j hc => by unfold uH at hc; exact e c j (by omega) (by omega) (by omega) (by omega)) a4
  · exact Jk_cong (fun c j hc => by unfold uK uB at hc; exact e c j (by omega) (by omega) (by omega) (by omega)) a4.1 a5
  · exact Jg_cong (fun c j hc => by unfold uG at hc; exact e c j (by omega) (by omega) (by omega) (by omega)) a6
theorem cpy_o {s : m_St} {a sp b dp n c j : Int} (h : ¬ c = b) : m_cpy s a sp b dp n c j = s c j := by unfold m_cpy; rw [if_neg (fun z => h z.1)]
theorem i2B_r (v : Int) : -128 ≤ i2B v ∧ i2B v ≤ 127 := by
  have e : i2B v = (Int32.ofInt v).toInt8.toInt := by
    unfold i2B
    exact Int8.toInt_toInt32 _
  rw [e]
  have h1 := Int8.le_toInt (Int32.ofInt v).toInt8
  have h2 := Int8.toInt_lt (Int32.ofInt v).toInt8
  omega
theorem sm_bd2 {f : Int → Int} : ∀ {n : Nat}, n ≤ 40 → (∀ k : Nat, k < n → inR (f k)) → -2147483648 * (n : Int) ≤ sm f n ∧ sm f n ≤ 2147483648 * (n : Int) := by
  intro n
  induction n with
  | zero => intro _ _; show _ ≤ (0 : Int) ∧ (0 : Int) ≤ _; omega
  | succ n ih =>
    intro hn hw
    rw [sm_s]
    have := ih (by omega) (fun k hk => hw k (by omega))
    have := hw n (by omega)
    omega
section OPC
variable {X : List Int32} {d : Nat} {s : m_St} {r j v n t k : Int}
theorem op_copy (h : J s) (rr : inR r) (rj : inR j) (rt : inR t) (rk : inR k) (rn : inR n) : Cl X (d + 20) 24 [vR 0, vI r, vI j, vI t, vI k, vI n] s (Pw X (d + 20) 167 [vR 77, vI r, vI j, vI t, vI k, vI n]) := by
  have hr := Jr_b (r := r) h
  have ht := Jr_b (r := t) h
  have e1 := fnd78 (s := s) (c := 78) (a := r) 1 (by decide) (by decide)
  have e2 := fnd78 (s := s) (c := 78) (a := r) 2 (by decide) (by decide)
  have e5 := fnd78 (s := s) (c := 78) (a := r) 5 (by decide) (by decide)
  have f1 := fnd78 (s := s) (c := 78) (a := t) 1 (by decide) (by decide)
  have f2 := fnd78 (s := s) (c := 78) (a := t) 2 (by decide) (by decide)
  have f5 := fnd78 (s := s) (c := 78) (a := t) 5 (by decide) (by decide)
  have c1 : 0 ≤ r → r < 6 → (0 < cmpJ (j + n) (s 78 r) ↔ s 78 r < j + n) := fun a b => cmpJ_p (by omega) (by have := hr a b; omega)
  have c2 : 0 ≤ t → t < 6 → (0 < cmpJ (k + n) (s 78 t) ↔ s 78 t < k + n) := fun a b => cmpJ_p (by omega) (by have := ht a b; omega)
  by_cases hb : 0 ≤ r ∧ r < 6 ∧ 0 ≤ t ∧ t < 6
  · have hr := hr hb.1 hb.2.1
    have ht := ht hb.2.2.1 hb.2.2.2
    have c1 := c1 hb.1 hb.2.1
    have c2 := c2 hb.2.2.1 hb.2.2.2
    have g1 : 0 < cmpJ (j + n) (m_upd (m_upd s 0 8 2) 76 2 (s 76 2 + 1) 78 r) ↔ s 78 r < j + n := by rw [e2]; exact c1
    have g2 : 0 < cmpJ (k + n) (m_upd (m_upd s 0 8 2) 76 2 (s 76 2 + 1) 78 t) ↔ s 78 t < k + n := by rw [f2]; exact c2
    have o1 : m_cpy s (4 + r) j (4 + t) k n 78 r = s 78 r := cpy_o (by omega)
    have o2 : m_cpy s (4 + r) j (4 + t) k n 78 t = s 78 t := cpy_o (by omega)
    have g3 : 0 < cmpJ (j + n) (m_cpy s (4 + r) j (4 + t) k n 78 r) ↔ s 78 r < j + n := by rw [o1]; exact c1
    have g4 : 0 < cmpJ (k + n) (m_cpy s (4 + r) j (4 + t) k n 78 t) ↔ s 78 t < k + n := by rw [o2]; exact c2
    apply t_X5_copy <;> intros
    all_goals first | exact rr | exact rj | exact rt | exact rk | exact rn | omega | skip
    all_goals refine Pw_mk ?_
    all_goals (apply t_X6_copy <;> intros)
    all_goals first | exact rr | exact rj | exact rt | exact rk | exact rn | omega | exact ⟨rfl, J_fnd h (by decide) (by decide)⟩ | skip
    refine sp_copyM hb.1 hb.2.1 hb.2.2.1 hb.2.2.2 (by omega) (by omega) (by omega) (by omega) (by omega) ⟨rfl, ?_⟩
    have a4 := (h.1.2 r hb.1 hb.2.1).2.2.2
    have b4 := (h.1.2 t hb.2.2.1 hb.2.2.2).2.2.2
    have z2 : cpM (m_cpy s (4 + r) j (4 + t) k n) r j t k n 2 t = s 2 t := by unfold cpM; rw [rwr_nc (by decide), rwr_nc (by decide), cpy_o (by omega)]
    have z78 : cpM (m_cpy s (4 + r) j (4 + t) k n) r j t k n 78 t = s 78 t := by unfold cpM; rw [rwr_nc (by decide), rwr_nc (by decide), cpy_o (by omega)]
    refine J_row (r := t) h (fun c i q1 q2 q3 q4 q5 => ?_) hb.2.2.1 hb.2.2.2 ?_ ?_ ?_ (fun i i0 i1 => ?_)
    · unfold cpM
      rw [rwr_o (by omega), rwr_nc q5, cpy_o q2]
    · rw [z2]; omega
    · rw [z2]; omega
    · rw [z2, z78]; omega
    · rw [z2] at i1
      have zc : cpM (m_cpy s (4 + r) j (4 + t) k n) r j t k n (4 + t) i = m_cpy s (4 + r) j (4 + t) k n (4 + t) i := by unfold cpM; rw [rwr_nc (by omega), rwr_nc (by omega)]
      rw [zc]
      unfold cpM
      by_cases hi : k ≤ i ∧ i < k + n
      · rw [rwr_in (by omega), cpy_o (c := 79) (by omega)]
        unfold m_cpy
        rw [if_pos ⟨rfl, hi⟩, show 40 * r + j + (40 * t + i - (40 * t + k)) = 40 * r + (j + (i - k)) by omega]
        exact a4 (j + (i - k)) (by omega) (by omega)
      · rw [rwr_nj (by omega), rwr_nc (by decide), cpy_o (c := 79) (by omega)]
        unfold m_cpy
        rw [if_neg (fun q => hi q.2)]
        exact b4 i i0 i1
  · apply t_X5_copy <;> intros
    all_goals first | exact rr | exact rj | exact rt | exact rk | exact rn | omega | skip
    all_goals refine Pw_mk ?_
    all_goals (apply t_X6_copy <;> intros)
    all_goals first | exact rr | exact rj | exact rt | exact rk | exact rn | omega | exact ⟨rfl, h⟩
theorem op_mean (h : J s) (rr : inR r) : Cl X (d + 20) 26 [vR 0, vI r] s (Pw X (d + 20) 168 [vR 77, vI r]) := by
  have hr := Jr_b (r := r) h
  have hq := h.1.2 r
  have hJ : 0 ≤ r → r < 6 → 0 < s 2 r → inJ (sm (s (4 + r)) (s 2 r).toNat) := fun a b c => by
    have := sm_bd2 (f := s (4 + r)) (n := (s 2 r).toNat) (by have := (hq a b).2.1; omega) (fun k hk => ((hq a b).2.2.2 k (by omega) (by omega)).1)
    omega
  have e1 := fnd78 (s := s) (c := 78) (a := r) 1 (by decide) (by decide)
  have e4 := fnd78 (s := s) (c := 78) (a := r) 4 (by decide) (by decide)
  apply t_X5_mean <;> intros
  all_goals first | exact rr | omega | skip
  all_goals first | exact ((hq (by omega) (by omega)).2.2.2 _ (by omega) (by omega)).1 | (exact hJ (by omega) (by omega) (by omega)) | skip
  · refine Pw_mk ?_
    apply t_X6_mean <;> intros
    all_goals first | exact rr | omega | exact ⟨rfl, h⟩
  · refine Pw_mk ?_
    apply t_X6_mean <;> intros
    all_goals first | exact rr | omega | exact ⟨rfl, h⟩
  · refine Pw_mk ?_
    apply t_X6_mean <;> intros
    all_goals first | exact rr | omega | exact ⟨rfl, J_fnd h (by decide) (by decide)⟩
  · next g1 g2 g3 g4 =>
    have a4 := (hq g1 g2).2.2.2
    have hr := hr g1 g2
    have eT : m_upd s 0 9 (Int.tdiv (sm (s (4 + r)) (Int.toNat (s 2 r))) (s 2 r)) 78 r = s 78 r := upd_nc (by decide)
    refine Pw_mk ?_
    apply t_X6_mean <;> intros
    all_goals first | exact rr | omega | skip
    refine sp_meanM g1 g2 (by omega) (by omega) (fun i i0 i1 => ?_) ⟨rfl, J_tell h ?_⟩
    · rw [upd_nc (by decide), (a4 i i0 (by omega)).2]
      exact (a4 i i0 (by omega)).1
    · rw [eT, hr.2.2]
      rw [sm_cong (f := s (4 + r)) (fun i hi => ?_)]
      rw [upd_nc (by decide)]
      exact (a4 i (by omega) (by omega)).2
  · refine Pw_mk ?_
    apply t_X6_mean <;> intros
    all_goals first | exact rr | omega | exact ⟨rfl, J_fnd h (by decide) (by decide)⟩
theorem op_text (h : J s) (rt : inR t) (rn : inR n) : Cl X (d + 20) 28 [vR 0, vI t, vI n] s (Pw X (d + 20) 169 [vR 77, vI t, vI n]) := by
  have h12 := h.2.1.1
  apply t_X5_text <;> intros
  all_goals first | exact rt | exact rn | exact h12 | omega | skip
  all_goals refine Pw_mk ?_
  all_goals (apply t_X6_text <;> intros)
  all_goals first | exact rt | exact rn | omega | exact ⟨rfl, h⟩ | exact ⟨rfl, J_fnd h (by decide) (by decide)⟩ | skip
  refine sp_textM (by omega) (by omega) ⟨rfl, J_text (r := t) h (fun c j q1 q2 q3 q4 => ?_) (by omega) (by omega) ?_ ?_ ?_ (fun j j0 j1 => ?_)⟩
  · rw [rwr_o (by omega), upd_o2 q3, fil_o (by omega), upd_o2 q1]
  · rw [rwr_nc (by decide), upd_nc (by decide), fil_o (by omega), upd_eq]; omega
  · rw [rwr_nc (by decide), upd_nc (by decide), fil_o (by omega), upd_eq]; omega
  · rw [rwr_nc (by decide), upd_eq, rwr_nc (by decide), upd_nc (by decide), fil_o (by omega), upd_eq]
  · rw [rwr_nc (by decide), upd_nc (by decide), fil_o (by omega), upd_eq] at j1
    rw [rwr_o (a := 13 + t) (by omega), upd_nc (c' := 13 + t) (by omega), fil_in j0 j1, rwr_in (by omega)]
    exact ⟨by omega, by omega, rfl⟩
theorem op_put (h : J s) (rt : inR t) (rj : inR j) (rv : inR v) : Cl X (d + 20) 29 [vR 0, vI t, vI j, vI v] s (Pw X (d + 20) 171 [vR 77, vI t, vI j, vI v]) := by
  have hr := Jt_b (t := t) h
  have e1 := fnd78 (s := s) (c := 81) (a := t) 1 (by decide) (by decide)
  have e2 := fnd78 (s := s) (c := 81) (a := t) 2 (by decide) (by decide)
  apply t_X5_put <;> intros
  all_goals first | exact rt | exact rj | omega | skip
  all_goals refine Pw_mk ?_
  · apply t_X6_put <;> intros
    all_goals first | exact rt | exact rj | omega | exact ⟨rfl, h⟩
  · apply t_X6_put <;> intros
    all_goals first | exact rt | exact rj | omega | exact ⟨rfl, h⟩
  · apply t_X6_put <;> intros
    all_goals first | exact rt | exact rj | omega | exact ⟨rfl, J_fnd h (by decide) (by decide)⟩
  · apply t_X6_put <;> intros
    all_goals first | exact rt | exact rj | omega | exact ⟨rfl, J_fnd h (by decide) (by decide)⟩
  · apply t_X6_put <;> intros
    all_goals first | exact rt | exact rj | omega | exact ⟨rfl, J_fnd h (by decide) (by decide)⟩
  · next g1 g2 g3 g4 g5 =>
    have eT : m_upd s (13 + t) j (i2B v) 81 t = s 81 t := upd_nc (by omega)
    have a4 := (h.2.1.2 t g1 g2).2.2.2
    apply t_X6_put <;> intros
    all_goals first | exact rt | exact rj | omega | skip
    have ev : m_upd s (13 + t) j (i2B v) 82 (60 * t + j) = s (13 + t) j := by rw [upd_nc (by omega)]; exact (a4 j g4 (by omega)).2.2
    refine ⟨by rw [ev], J_text (r := t) h (fun c i q1 q2 q3 q4 => ?_) g1 g2 ?_ ?_ ?_ (fun i i0 i1 => ?_)⟩
    · rw [upd_o2 (by omega), upd_nc q2]
    · rw [upd_nc (by decide), upd_nc (by omega)]; omega
    · rw [upd_nc (by decide), upd_nc (by omega)]; omega
    · rw [upd_nc (by decide), upd_nc (by omega), upd_nc (by decide), upd_nc (by omega)]; omega
    · rw [upd_nc (by decide), upd_nc (by omega)] at i1
      rw [upd_nc (c' := 13 + t) (by omega)]
      by_cases hij : i = j
      · subst hij
        rw [upd_eq, upd_eq]
        have := i2B_r v
        exact ⟨this.1, this.2, rfl⟩
      · rw [upd_nj hij, upd_nj (by omega), upd_nc (by omega)]
        exact a4 i i0 i1
end OPC
