/-! calls side by side: rows and texts -/
def Pw (X : List Int32) (d m : Nat) (A : List Value) : Option Value → m_St → Prop := fun v s1 => ∃ a, inR a ∧ v = some (vI a) ∧ Cl X d m A s1 (fun v2 s2 => v2 = some (vI a) ∧ J s2)
def PwJ (X : List Int32) (d m : Nat) (A : List Value) : Option Value → m_St → Prop := fun v s1 => ∃ a, inJ a ∧ v = some (vJ a) ∧ Cl X d m A s1 (fun v2 s2 => v2 = some (vJ a) ∧ J s2)
theorem inJ_toInt (x : Int64) : inJ x.toInt := ⟨Int64.le_toInt x, Int64.toInt_lt x⟩
theorem Pw_mk {X : List Int32} {d m : Nat} {A : List Value} {b : Int} {s1 : m_St} (h : Cl X d m A s1 (fun v2 s2 => v2 = some (vI b) ∧ J s2)) : Pw X d m A (some (vI b)) s1 := by
  have e : vI (Int32.ofInt b).toInt = vI b := by unfold vI; rw [Int32.ofInt_toInt]
  refine ⟨(Int32.ofInt b).toInt, inR_toInt _, by rw [e], ?_⟩
  rw [e]
  exact h
theorem PwJ_mk {X : List Int32} {d m : Nat} {A : List Value} {b : Int} {s1 : m_St} (h : Cl X d m A s1 (fun v2 s2 => v2 = some (vJ b) ∧ J s2)) : PwJ X d m A (some (vJ b)) s1 := by
  have e : vJ (Int64.ofInt b).toInt = vJ b := by unfold vJ; rw [Int64.ofInt_toInt]
  refine ⟨(Int64.ofInt b).toInt, inJ_toInt _, by rw [e], ?_⟩
  rw [e]
  exact h
theorem fnd_o {s : m_St} {f c j : Int} (h : ¬ c = 0) (h2 : ¬ c = 76) : fnd s f c j = s c j := by
  unfold fnd
  rw [upd_nc h2, upd_nc h]
/-- both find -/
def mfd (s : m_St) (f : Int) : m_St := m_upd (m_upd s 77 10 f) 87 f (s 87 f + 1)
theorem mfd_o {s : m_St} {f c j : Int} (h : ¬ c = 87) (h2 : ¬ (c = 77 ∧ j = 10)) : mfd s f c j = s c j := by
  unfold mfd
  rw [upd_nc h, upd_o2 h2]
theorem J_fnd {s : m_St} {f : Int} (h : J s) (f1 : 1 ≤ f) (f5 : f ≤ 5) : J (mfd (fnd s f) f) := by
  obtain ⟨a1, a2, a3, a4, a5, a6⟩ := h
  refine ⟨?_, ?_, ?_, ?_, ?_, ?_⟩
  · exact Jr_cong (fun c j hc => by unfold uR at hc; rw [mfd_o (by omega) (by omega), fnd_o (by omega) (by omega)]) a1
  · exact Jt_cong (fun c j hc => by unfold uT at hc; rw [mfd_o (by omega) (by omega), fnd_o (by omega) (by omega)]) a2
  · obtain ⟨b1, b2, b3, b4, b5⟩ := a3
    unfold mfd fnd
    refine ⟨?_, ?_, ?_, ?_, fun g g1 g5 => ?_⟩
    · rw [upd_nc (by decide), upd_eq, upd_nc (by decide), upd_nc (by decide), upd_nc (by decide), upd_eq]
    · rw [upd_nc (by decide), upd_nj (by decide), upd_nc (by decide), upd_nc (by decide), upd_nc (by decide), upd_nc (by decide), upd_nc (by decide), upd_nj (by decide)]; exact b2
    · rw [upd_nc (by decide), upd_nj (by decide), upd_nc (by decide), upd_nc (by decide), upd_nc (by decide), upd_nc (by decide), upd_nc (by decide), upd_nj (by decide)]; exact b3
    · rw [upd_nc (by decide), upd_nj (by decide), upd_nc (by decide), upd_nc (by decide), upd_nc (by decide), upd_nc (by decide), upd_nc (by decide), upd_nj (by decide)]; exact b4
    · by_cases hg : g = f
      · subst hg
        rw [upd_eq, upd_nc (by decide), upd_nc (by decide), upd_nc (by decide), upd_nc (by decide), upd_eq, b5 g g1 g5]
      · rw [upd_nj hg, upd_nc (by decide), upd_nc (by decide), upd_nc (by decide), upd_nc (by decide), upd_nc (by decide), upd_nj hg, upd_nc (by decide)]
        exact b5 g g1 g5
  · exact Jh_cong (fun c j hc => by unfold uH at hc; rw [mfd_o (by omega) (by omega), fnd_o (by omega) (by omega)]) a4
  · exact Jk_cong (fun c j hc => by unfold uK uB at hc; rw [mfd_o (by omega) (by omega), fnd_o (by omega) (by omega)]) a4.1 a5
  · exact Jg_cong (fun c j hc => by unfold uG at hc; rw [mfd_o (by omega) (by omega), fnd_o (by omega) (by omega)]) a6
/-- nothing but answers changed -/
theorem J_ans {s t : m_St} (h : J s) (e : ∀ c j, ¬ c = 0 → ¬ c = 77 → t c j = s c j) (e8 : t 0 8 = s 0 8) (e10 : t 77 10 = s 77 10) (e9 : t 77 11 = t 0 9) (eu : t 77 12 = t 0 10) (el : t 77 13 = t 0 11) : J t := by
  obtain ⟨a1, a2, a3, a4, a5, a6⟩ := h
  refine ⟨?_, ?_, ?_, ?_, ?_, ?_⟩
  · exact Jr_cong (fun c j hc => e c j (by unfold uR at hc; omega) (by unfold uR at hc; omega)) a1
  · exact Jt_cong (fun c j hc => e c j (by unfold uT at hc; omega) (by unfold uT at hc; omega)) a2
  · obtain ⟨b1, b2, b3, b4, b5⟩ := a3
    refine ⟨by rw [e8, e10]; exact b1, e9, eu, el, fun f f1 f5 => ?_⟩
    rw [e 87 f (by decide) (by decide), e 76 f (by decide) (by decide)]
    exact b5 f f1 f5
  · exact Jh_cong (fun c j hc => e c j (by unfold uH at hc; omega) (by unfold uH at hc; omega)) a4
  · exact Jk_cong (fun c j hc => e c j (by unfold uK uB at hc; omega) (by unfold uK uB at hc; omega)) a4.1 a5
  · exact Jg_cong (fun c j hc => e c j (by unfold uG at hc; omega) (by unfold uG at hc; omega)) a6
theorem J_tell {s : m_St} {v w : Int} (h : J s) (hv : w = v) : J (m_upd (m_upd s 0 9 v) 77 11 w) := by
  subst hv
  have hf := h.2.2.1
  refine J_ans h (fun c j h0 h7 => by rw [upd_nc h7, upd_nc h0]) ?_ ?_ ?_ ?_ ?_
  · rw [upd_nc (by decide), upd_nj (by decide)]
  · rw [upd_nj (by decide), upd_nc (by decide)]
  · rw [upd_eq, upd_nc (by decide), upd_eq]
  · rw [upd_nj (by decide), upd_nc (by decide), upd_nc (by decide), upd_nj (by decide)]; exact hf.2.2.1
  · rw [upd_nj (by decide), upd_nc (by decide), upd_nc (by decide), upd_nj (by decide)]; exact hf.2.2.2.1
/-- one row changed -/
theorem Jr_set {s t : m_St} {r : Int} (h : Jr s) (e : ∀ c j, uR c j → ¬ (c = 2 ∧ j = r) → ¬ c = 4 + r → ¬ (c = 78 ∧ j = r) → ¬ (c = 79 ∧ 40 * r ≤ j ∧ j < 40 * r + 40) → t c j = s c j) (h0 : 0 ≤ r) (h6 : r < 6) (n0 : -1 ≤ t 2 r) (n4 : t 2 r ≤ 40) (em : t 78 r = t 2 r) (ej : ∀ j, 0 ≤ j → j < t 2 r → inR (t (4 + r) j) ∧ t 79 (40 * r + j) = t (4 + r) j) : Jr t := by
  obtain ⟨h1, h2⟩ := h
  refine ⟨by rw [e 1 2 (Or.inl ⟨rfl, rfl⟩) (by omega) (by omega) (by omega) (by omega)]; exact h1, fun q q0 q6 => ?_⟩
  by_cases hq : q = r
  · subst hq
    exact ⟨n0, n4, em, ej⟩
  · obtain ⟨a1, a2, a3, a4⟩ := h2 q q0 q6
    have e2 : t 2 q = s 2 q := e _ _ (Or.inr (Or.inl rfl)) (by omega) (by omega) (by omega) (by omega)
    rw [e2, e 78 q (by unfold uR; omega) (by omega) (by omega) (by omega) (by omega)]
    refine ⟨a1, a2, a3, fun j j0 j1 => ?_⟩
    rw [e (4 + q) j (by unfold uR; omega) (by omega) (by omega) (by omega) (by omega), e 79 _ (by unfold uR; omega) (by omega) (by omega) (by omega) (by omega)]
    exact a4 j j0 j1
theorem J_row {s t : m_St} {r : Int} (h : J s) (e : ∀ c j, ¬ (c = 2 ∧ j = r) → ¬ c = 4 + r → ¬ (c = 78 ∧ j = r) → ¬ (c = 79 ∧ 40 * r ≤ j ∧ j < 40 * r + 40) → ¬ c = 80 → t c j = s c j) (h0 : 0 ≤ r) (h6 : r < 6) (n0 : -1 ≤ t 2 r) (n4 : t 2 r ≤ 40) (em : t 78 r = t 2 r) (ej : ∀ j, 0 ≤ j → j < t 2 r → inR (t (4 + r) j) ∧ t 79 (40 * r + j) = t (4 + r) j) : J t := by
  obtain ⟨a1, a2, a3, a4, a5, a6⟩ := h
  refine ⟨Jr_set a1 (fun c j hc q1 q2 q3 q4 => e c j q1 q2 q3 q4 (by unfold uR at hc; omega)) h0 h6 n0 n4 em ej, ?_, ?_, ?_, ?_, ?_⟩
  · exact Jt_cong (fun c j hc => by unfold uT at hc; exact e c j (by omega) (by omega) (by omega) (by omega) (by omega)) a2
  · exact Jf_cong (fun c j hc => by unfold uF at hc; exact e c j (by omega) (by omega) (by omega) (by omega) (by omega)) a3
  · exact Jh_cong (fun c j hc => by unfold uH at hc; exact e c j (by omega) (by omega) (by omega) (by omega) (by omega)) a4
  · exact Jk_cong (fun c j hc => by unfold uK uB at hc; exact e c j (by omega) (by omega) (by omega) (by omega) (by omega)) a4.1 a5
  · exact Jg_cong (fun c j hc => by unfold uG at hc; exact e c j (by omega) (by omega) (by omega) (by omega) (by omega)) a6
theorem fil_o {s : m_St} {c n v a j : Int} (h : ¬ (a = c ∧ 0 ≤ j ∧ j < n)) : fil s c n v a j = s a j := by unfold fil; rw [if_neg h]
theorem fil_in {s : m_St} {c n v j : Int} (h0 : 0 ≤ j) (h1 : j < n) : fil s c n v c j = v := by unfold fil; rw [if_pos ⟨rfl, h0, h1⟩]
section OPA
variable {X : List Int32} {d : Nat} {s : m_St} {r j v n t k : Int}
theorem op_row (h : J s) (rr : inR r) (rn : inR n) : Cl X (d + 20) 8 [vR 0, vI r, vI n] s (Pw X (d + 20) 158 [vR 77, vI r, vI n]) := by
  have h12 := h.1.1
  apply t_X5_row <;> intros
  all_goals first | exact rr | exact rn | exact h12 | omega | skip
  all_goals refine Pw_mk ?_
  all_goals (apply t_X6_row <;> intros)
  all_goals first | exact rr | exact rn | omega | exact ⟨rfl, h⟩ | exact ⟨rfl, J_fnd h (by decide) (by decide)⟩ | skip
  refine ⟨rfl, J_row (r := r) h (fun c j q1 q2 q3 q4 q5 => ?_) (by omega) (by omega) ?_ ?_ ?_ (fun j j0 j1 => ?_)⟩
  · rw [rwr_o (by omega), upd_o2 q3, fil_o (by omega), upd_o2 q1]
  · rw [rwr_nc (by decide), upd_nc (by decide), fil_o (by omega), upd_eq]; omega
  · rw [rwr_nc (by decide), upd_nc (by decide), fil_o (by omega), upd_eq]; omega
  · rw [rwr_nc (by decide), upd_eq, rwr_nc (by decide), upd_nc (by decide), fil_o (by omega), upd_eq]
  · rw [rwr_nc (by decide), upd_nc (by decide), fil_o (by omega), upd_eq] at j1
    rw [rwr_o (a := 4 + r) (by omega), upd_nc (c' := 4 + r) (by omega), fil_in j0 j1, rwr_in (by omega)]
    exact ⟨inR_0, rfl⟩
end OPA
