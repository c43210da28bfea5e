/-! places written one after another -/
def rwr (s : m_St) (c lo n : Int) (f : Int → Int) : m_St := fun a j => if a = c ∧ lo ≤ j ∧ j < lo + n then f (j - lo) else s a j
theorem rwr_0 {s : m_St} {c lo : Int} {f : Int → Int} : rwr s c lo 0 f = s := by
  funext a j
  unfold rwr
  rw [if_neg (by omega)]
theorem rwr_up {s : m_St} {c lo n i v : Int} {f : Int → Int} (h : 0 ≤ n) (hi : i = lo + n) (hv : v = f n) : m_upd (rwr s c lo n f) c i v = rwr s c lo (n + 1) f := by
  subst hi hv
  funext a j
  unfold m_upd rwr
  by_cases h1 : a = c ∧ j = lo + n
  · rw [if_pos h1, if_pos (by omega), show j - lo = n by omega]
  · rw [if_neg h1]
    by_cases h2 : a = c ∧ lo ≤ j ∧ j < lo + n
    · rw [if_pos h2, if_pos (by omega)]
    · rw [if_neg h2, if_neg (by omega)]
theorem rwr_nc {s : m_St} {c lo n a j : Int} {f : Int → Int} (h : ¬ a = c) : rwr s c lo n f a j = s a j := by unfold rwr; rw [if_neg (fun z => h z.1)]
theorem rwr_nj {s : m_St} {c lo n a j : Int} {f : Int → Int} (h : ¬ (lo ≤ j ∧ j < lo + n)) : rwr s c lo n f a j = s a j := by unfold rwr; rw [if_neg (fun z => h z.2)]
theorem rwr_o {s : m_St} {c lo n a j : Int} {f : Int → Int} (h : ¬ (a = c ∧ lo ≤ j ∧ j < lo + n)) : rwr s c lo n f a j = s a j := by unfold rwr; rw [if_neg h]
theorem rwr_in {s : m_St} {c lo n j : Int} {f : Int → Int} (h : lo ≤ j ∧ j < lo + n) : rwr s c lo n f c j = f (j - lo) := by unfold rwr; rw [if_pos ⟨rfl, h⟩]
section SPX
variable {X : List Int32} {d : Nat} {s : m_St} {P : Option Value → m_St → Prop} {r n : Int}
theorem sp_lays (h0 : 0 ≤ r) (h6 : r < 6) (kk : P none (rwr (m_upd s 78 r n) 79 (40 * r) 40 (fun _ => 0))) : Cl X d 162 [vR 77, vI r, vI n] s P := by
  apply t_X6_lays h0 h6
  have loop : ∀ (m : Nat) (k : Int), 0 ≤ k → k + m = 40 → Rn X d 162 9 [some (vR 77), some (vI r), some (vI n), some (vI k)] [] (rwr (m_upd s 78 r n) 79 (40 * r) k (fun _ => 0)) P := by
    intro m
    induction m with
    | zero =>
      intro k k0 km
      have : k = 40 := by omega
      subst this
      apply t_X6_lays_9 h0 h6 k0 <;> intros
      all_goals first | omega | exact kk
    | succ m ih =>
      intro k k0 km
      apply t_X6_lays_9 h0 h6 k0 <;> intros
      all_goals first | omega | skip
      rw [rwr_up (s := m_upd s 78 r n) k0 rfl rfl]
      exact ih (k + 1) (by omega) (by omega)
  have := loop 40 0 (by omega) (by omega)
  rw [rwr_0] at this
  exact this
end SPX
