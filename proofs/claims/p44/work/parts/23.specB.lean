/-! guests -/
section SPB
variable {X : m_X} {d : Nat} {s : m_St} {P : Option Value → m_St → Prop} {g a : Int}
theorem sp_heldAs (hg : ty g = 0) (hw : wr (s (g + 1))) (ra : inR a) (k : P (some (vI (hset (s (g + 1)) (hf a)))) s) : Cl X (d + 1) 43 [vR g, vI a] s P := by
  apply t_X0_heldAs hg <;> intros <;> first | exact ra | exact hw _ (by omega) (by omega) | exact PI k (by unfold hset; omega)
end SPB
