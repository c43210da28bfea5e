/-! text 0 of the class: made anew, signs put -/
section SLP
variable {X : m_X} {d : Nat} {s : m_St} {P : Option Value → m_St → Prop} {j v : Int}
theorem sp_text0 (h : s 10 2 = 60) (k : P (some (vI 60)) (fil (m_upd s 11 0 60) 13 60 32)) : Cl X (d + 2) 28 [vR 0, vI 0, vI 60] s P := by
  apply t_X5_text <;> intros
  all_goals first | exact h | exact k | omega
theorem sp_put0 (h : s 11 0 = 60) (j0 : 0 ≤ j) (j1 : j < 60) (hb : s 13 j = 32) (k : P (some (vI 1032)) (m_upd s 13 j (i2B v))) : Cl X (d + 5) 29 [vR 0, vI 0, vI j, vI v] s P := by
  have hk : P (some (vI (s (13 + 0) j + 1000))) (m_upd s (13 + 0) j (i2B v)) := by
    rw [show ((13 : Int) + 0) = 13 by decide, hb]
    exact k
  apply t_X5_put <;> intros
  all_goals first | exact hk | omega
end SLP
