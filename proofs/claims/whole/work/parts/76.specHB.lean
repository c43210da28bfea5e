/-! the reference: who is up -/
def uok (s : m_St) : Prop := mok s ∧ 1 ≤ s 83 5
def cbM (h : Int → Int) (z : Int) : Int := if iAnd (iShr (hld h (h (5 + z / 4) - 1)) (z % 4)) 1 = 1 then 1 else 0
theorem inR_cbM (h : Int → Int) (z : Int) : inR (cbM h z) := by
  have : cbM h z = 0 ∨ cbM h z = 1 := by
    unfold cbM
    repeat' split
    all_goals first | exact Or.inl rfl | exact Or.inr rfl
  omega
theorem uok.u {s : m_St} (h : uok s) : 0 ≤ s 83 5 - 1 ∧ s 83 5 - 1 < s 83 0 ∧ 0 ≤ s 83 6 - 1 ∧ s 83 6 - 1 < s 83 0 := by
  obtain ⟨a1, a2, a3, a4, a5, a6, a7, a8, a9, a10, a11, a12⟩ := h.1.1
  have := h.2
  omega
section SPHB
variable {X : List Int32} {d : Nat} {s : m_St} {P : Option Value → m_St → Prop} {w z : Int}
theorem sp_upHolds (h : uok s) (w0 : 0 ≤ w) (w1 : w < 2) (kk : P (some (vI (hld (s 83) (s 83 (5 + w) - 1)))) s) : Cl X (d + 3) 202 [vR 77, vI w] s P := by
  have hu := h.u
  have : w = 0 ∨ w = 1 := by omega
  rcases this with rfl | rfl
  · exact t_X6_upHolds w0 w1 (by omega) (by omega) h.1 hu.1 hu.2.1 kk
  · exact t_X6_upHolds w0 w1 (by omega) (by omega) h.1 hu.2.2.1 hu.2.2.2 kk
theorem sp_canBe (h : uok s) (z0 : 0 ≤ z) (z8 : z < 8) (kk : P (some (vI (cbM (s 83) z))) s) : Cl X (d + 4) 205 [vR 77, vI z] s P := by
  have hu := h.u
  have hz : 5 + z / 4 = 5 ∨ 5 + z / 4 = 6 := by omega
  have h1 : 0 ≤ s 83 (5 + z / 4) - 1 := by
    rcases hz with e | e
    · rw [e]; exact hu.1
    · rw [e]; exact hu.2.2.1
  have h2 : s 83 (5 + z / 4) - 1 < s 83 0 := by
    rcases hz with e | e
    · rw [e]; exact hu.2.1
    · rw [e]; exact hu.2.2.2
  apply t_X6_canBe z0 z8 <;> intros
  all_goals first | omega | exact h.1 | skip
  · next g => exact PI kk (by unfold cbM; rw [if_neg g])
  · next g => exact PI kk (by unfold cbM; rw [if_pos g])
end SPHB
