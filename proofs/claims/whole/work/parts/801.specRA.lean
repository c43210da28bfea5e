/-! the reference reads: signs -/
def rdk (s : m_St) (t : Int) : Prop := 0 ≤ s 77 18 ∧ s 77 18 ≤ 500 ∧ -1 ≤ s 81 t ∧ s 81 t ≤ 60 ∧ (s 77 19 = 0 ∨ s 77 19 = 1) ∧ ∀ j, 0 ≤ j → j < s 81 t → -128 ≤ s 82 (60 * t + j) ∧ s 82 (60 * t + j) ≤ 127
def lkM (s : m_St) (t : Int) : Int := if s 77 18 < s 81 t then s 82 (60 * t + s 77 18) else -1000
theorem lkM_r {s : m_St} {t : Int} (h : rdk s t) : -1000 ≤ lkM s t ∧ lkM s t ≤ 127 := by
  obtain ⟨h1, h2, h3, h4, h5, h6⟩ := h
  unfold lkM
  by_cases hp : s 77 18 < s 81 t
  · have := h6 _ h1 hp
    rw [if_pos hp]; omega
  · rw [if_neg hp]; omega
section SPRA
variable {X : List Int32} {d : Nat} {s : m_St} {P : Option Value → m_St → Prop} {t : Int}
theorem sp_look (t0 : 0 ≤ t) (t4 : t < 4) (h : rdk s t) (kk : P (some (vI (lkM s t))) s) : Cl X d 176 [vR 77, vI t] s P := by
  obtain ⟨h1, h2, h3, h4, h5, h6⟩ := h
  unfold lkM at kk
  by_cases hp : s 77 18 < s 81 t
  · rw [if_pos hp] at kk
    apply t_X6_look t0 t4 h1 <;> intros
    all_goals first | omega | exact kk
  · rw [if_neg hp] at kk
    apply t_X6_look t0 t4 h1 <;> intros
    all_goals first | omega | exact kk
end SPRA
