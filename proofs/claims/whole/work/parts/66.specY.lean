/-! a hut copied whole -/
section SPY
variable {X : List Int32} {d : Nat} {s : m_St} {P : Option Value → m_St → Prop} {a b : Int}
theorem sp_copies84 (a0 : 0 ≤ a) (a1 : a + 198 ≤ 198) (b0 : 0 ≤ b) (b1 : b + 198 ≤ 198) (kk : P none (rwr s 83 b 198 (fun k => s 84 (a + k)))) : Cl X d 182 [vR 84, vI a, vR 83, vI b] s P := by
  apply t_copies84
  have loop : ∀ (m : Nat) (k : Int), 0 ≤ k → k + m = 198 → Rn X d 182 3 [some (vR 84), some (vI a), some (vR 83), some (vI b), some (vI k)] [] (rwr s 83 b k (fun k => s 84 (a + k))) P := by
    intro m
    induction m with
    | zero =>
      intro k k0 km
      have : k = 198 := by omega
      subst this
      apply t_copies84_3 k0 <;> intros
      all_goals first | omega | exact kk
    | succ m ih =>
      intro k k0 km
      apply t_copies84_3 k0 <;> intros
      all_goals first | omega | skip
      rw [rwr_nc (s := s) (a := 84) (by decide), rwr_up (s := s) k0 rfl rfl]
      exact ih (k + 1) (by omega) (by omega)
  have := loop 198 0 (by omega) (by omega)
  rw [rwr_0] at this
  exact this
theorem sp_copies83 (a0 : 0 ≤ a) (a1 : a + 198 ≤ 198) (b0 : 0 ≤ b) (b1 : b + 198 ≤ 594) (kk : P none (rwr s 85 b 198 (fun k => s 83 (a + k)))) : Cl X d 182 [vR 83, vI a, vR 85, vI b] s P := by
  apply t_copies83
  have loop : ∀ (m : Nat) (k : Int), 0 ≤ k → k + m = 198 → Rn X d 182 3 [some (vR 83), some (vI a), some (vR 85), some (vI b), some (vI k)] [] (rwr s 85 b k (fun k => s 83 (a + k))) P := by
    intro m
    induction m with
    | zero =>
      intro k k0 km
      have : k = 198 := by omega
      subst this
      apply t_copies83_3 k0 <;> intros
      all_goals first | omega | exact kk
    | succ m ih =>
      intro k k0 km
      apply t_copies83_3 k0 <;> intros
      all_goals first | omega | skip
      rw [rwr_nc (s := s) (a := 83) (by decide), rwr_up (s := s) k0 rfl rfl]
      exact ih (k + 1) (by omega) (by omega)
  have := loop 198 0 (by omega) (by omega)
  rw [rwr_0] at this
  exact this
theorem sp_copies85 (a0 : 0 ≤ a) (a1 : a + 198 ≤ 594) (b0 : 0 ≤ b) (b1 : b + 198 ≤ 198) (kk : P none (rwr s 83 b 198 (fun k => s 85 (a + k)))) : Cl X d 182 [vR 85, vI a, vR 83, vI b] s P := by
  apply t_copies85
  have loop : ∀ (m : Nat) (k : Int), 0 ≤ k → k + m = 198 → Rn X d 182 3 [some (vR 85), some (vI a), some (vR 83), some (vI b), some (vI k)] [] (rwr s 83 b k (fun k => s 85 (a + k))) P := by
    intro m
    induction m with
    | zero =>
      intro k k0 km
      have : k = 198 := by omega
      subst this
      apply t_copies85_3 k0 <;> intros
      all_goals first | omega | exact kk
    | succ m ih =>
      intro k k0 km
      apply t_copies85_3 k0 <;> intros
      all_goals first | omega | skip
      rw [rwr_nc (s := s) (a := 85) (by decide), rwr_up (s := s) k0 rfl rfl]
      exact ih (k + 1) (by omega) (by omega)
  have := loop 198 0 (by omega) (by omega)
  rw [rwr_0] at this
  exact this
end SPY
