/-! the law's own methods: a saying between two -/
def sgL (s : m_St) (z : Int) : m_St := m_upd s 78 (5 * s 79 (1 - z / 4) + 1 + z % 4) (cl (s 78 (5 * s 79 (1 - z / 4) + 1 + z % 4) + mv (s 78 (5 * s 79 (1 - z / 4))) (hA s (s 79 (1 - z / 4))) (s 38 5) (z % 4)))
section SLD
variable {X : m_X} {d : Nat} {s : m_St} {P : Option Value → m_St → Prop} {m n z : Int}
theorem sp_saysL (hU : 4 ≤ X.2) (ht : trL (s 38 5) (s 77) m.toNat) (m0 : 0 ≤ m) (m5 : m ≤ 5) (hp : ∀ j, 0 ≤ j → j < 2 * m → inR (s 77 j)) (n6 : n ≤ 6) (hg : gL s n) (z0 : 0 ≤ z) (z8 : z < 8) (u0 : 0 ≤ s 79 0) (u1 : s 79 0 < n) (v0 : 0 ≤ s 79 1) (v1 : s 79 1 < n) (kk : P none (sgL s z)) : Cl X (d + 3) 165 [vI m, vR 77, vR 78, vR 79, vI z] s P := by
  have hu : 0 ≤ s 79 (1 - z / 4) ∧ s 79 (1 - z / 4) < n := by
    rcases (show 1 - z / 4 = 0 ∨ 1 - z / 4 = 1 by omega) with e | e
    · rw [e]; exact ⟨u0, u1⟩
    · rw [e]; exact ⟨v0, v1⟩
  obtain ⟨g1, g2, g3⟩ := hg _ hu.1 hu.2
  apply t_L_says hU <;> intros
  all_goals first | exact ht | (exact hp _ (by assumption) (by assumption)) | (exact g3 _ (by assumption) (by assumption)) | exact kk | omega
end SLD
