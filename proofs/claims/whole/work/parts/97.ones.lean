/-! ones -/
def on16 (z : Int) : Int := sm (fun i => iAnd (iShr z i) 1) 16
theorem on_r (z : Int) : ∀ n : Nat, n ≤ 16 → 0 ≤ sm (fun i => iAnd (iShr z i) 1) n ∧ sm (fun i => iAnd (iShr z i) 1) n ≤ n := by
  intro n
  induction n with
  | zero => intro _; exact ⟨by show (0 : Int) ≤ 0; omega, by show (0 : Int) ≤ 0; omega⟩
  | succ n ih =>
    intro hn
    rw [sm_s]
    have := ih (by omega)
    have e := bit_of (a := z) (j := (n : Int)) (by omega) (by omega)
    have : iAnd (iShr z n) 1 = 0 ∨ iAnd (iShr z n) 1 = 1 := by
      rw [e]
      cases bt z (n : Int).toNat
      · exact Or.inl rfl
      · exact Or.inr rfl
    omega
theorem inR_on16 (z : Int) : inR (on16 z) := by
  have := on_r z 16 (by omega)
  unfold on16
  omega
theorem on_bc0 : ∀ a : Fin 16, on16 ((a : Nat) : Int) = bc ((a : Nat) : Int) := by decide +kernel
theorem on_bc {a : Int} (h0 : 0 ≤ a) (h1 : a < 16) : on16 a = bc a := by
  have e : ((a.toNat : Nat) : Int) = a := by omega
  have := on_bc0 ⟨a.toNat, by omega⟩
  rw [show (((⟨a.toNat, by omega⟩ : Fin 16) : Nat) : Int) = a from e] at this
  exact this
section SPON
variable {X : List Int32} {d : Nat} {s : m_St} {P : Option Value → m_St → Prop} {z : Int}
theorem sp_ones (kk : P (some (vI (on16 z))) s) : Cl X d 232 [vI z] s P := by
  apply t_X6_ones
  have loop : ∀ (m : Nat) (i : Int), 0 ≤ i → i + m = 16 → Rn X d 232 4 [some (vI z), some (vI (sm (fun i => iAnd (iShr z i) 1) i.toNat)), some (vI i)] [] s P := by
    intro m
    induction m with
    | zero =>
      intro i i0 im
      have : i = 16 := by omega
      subst this
      apply t_X6_ones_4 i0 <;> intros
      all_goals first | exact kk | omega
    | succ m ih =>
      intro i i0 im
      have := on_r z i.toNat (by omega)
      have hx := ih (i + 1) (by omega) (by omega)
      rw [sm_up i0] at hx
      apply t_X6_ones_4 i0 <;> intros
      all_goals first | exact hx | omega
  exact loop 16 0 (by omega) (by omega)
end SPON
