/-! signs -/
def sok (s : m_St) : Prop := 0 ≤ s 23 3 ∧ s 23 3 ≤ 1000 ∧ 0 ≤ s 23 2 ∧ s 23 2 ≤ 60 ∧ ∀ j, 0 ≤ j → j < s 23 2 → -128 ≤ s 25 j ∧ s 25 j ≤ 127
def sgn (s : m_St) : Int := at_ (s 23 2) (s 25) (s 23 3)
theorem sgn_r {s : m_St} (h : sok s) : -128 ≤ sgn s ∧ sgn s ≤ 1000 ∧ (sgn s = 1000 ↔ s 23 2 ≤ s 23 3) := by
  obtain ⟨h0, h1, h2, h3, h4⟩ := h
  unfold sgn at_
  split
  · have := h4 (s 23 3) h0 (by assumption)
    omega
  · omega
theorem upd_fun {s : m_St} {c j v a : Int} (h : ¬ a = c) : m_upd s c j v a = s a := by funext i; exact upd_nc h
theorem upd_o2 {s : m_St} {c j v a i : Int} (h : ¬ (a = c ∧ i = j)) : m_upd s c j v a i = s a i := if_neg h
theorem upd2 {s : m_St} {c j v w : Int} : m_upd (m_upd s c j v) c j w = m_upd s c j w := by
  funext a i
  unfold m_upd
  split <;> rfl
theorem upd_self {s : m_St} {c j : Int} : m_upd s c j (s c j) = s := by
  funext a i
  unfold m_upd
  split
  · next h => rw [h.1, h.2]
  · rfl
theorem sgn_upd {s : m_St} {q : Int} : sgn (m_upd s 23 3 q) = at_ (s 23 2) (s 25) q := by
  unfold sgn
  rw [upd_nj (by decide), upd_eq, upd_fun (by decide)]
theorem sok_upd {s : m_St} {q : Int} (h : sok s) (h0 : 0 ≤ q) (h1 : q ≤ 1000) : sok (m_upd s 23 3 q) := by
  obtain ⟨-, -, h2, h3, h4⟩ := h
  unfold sok
  rw [upd_eq, upd_nj (by decide), upd_fun (by decide)]
  exact ⟨h0, h1, h2, h3, h4⟩
section SGN
variable {X : m_X} {d : Nat} {s : m_St} {P : Option Value → m_St → Prop} {a : Int}
theorem sp_sign (h : sok s) (k : P (some (vI (sgn s))) s) : Cl X d 35 [vR 23] s P := by
  obtain ⟨h0, h1, h2, h3, h4⟩ := h
  apply t_X2_sign <;> intros <;> first | omega | skip
  · exact PI k (if_neg (by omega))
  · exact PI k (if_pos (by assumption))
theorem sp_kindOfR (ra : inR a) (k : P (some (vI (kOf a))) s) : Cl X d 40 [vI a] s P := by
  apply t_X2_kindOf <;> intros <;> first | exact ra | exact PI k (by unfold kOf; omega)
end SGN
