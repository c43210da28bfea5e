/-! a step never takes cells away -/
theorem m_go_h {pc : Nat} {off : Int} {L : m_L} {st : List Value} {h : m_H} {q : m_S} (e : m_go pc off L st h = some q) : q.2.2.2 = h := by
  unfold m_go at e
  obtain ⟨-, e⟩ := m_c_s e
  cases e
  rfl
theorem m_br_h {pc : Nat} {off : Int} {b : Prop} {db : Decidable b} {L : m_L} {st : List Value} {h : m_H} {q : m_S} (e : @m_br pc off b db L st h = some q) : q.2.2.2 = h := by
  unfold m_br at e
  obtain ⟨-, e⟩ := m_c_s e
  split at e <;> (cases e; rfl)
theorem m_sA_h {k : Nat} {i : Instr} {pc : Nat} {L : m_L} {st : List Value} {h : m_H} {q : m_S} (hs : m_sA k i pc L st h = some q) : q.2.2.2 = h := by
  cases i
  all_goals first
    | (cases hs; done)
    | (cases hs; rfl)
    | (obtain ⟨x, e1, e2⟩ := m_ldi_s hs; first | (cases e2; rfl) | (obtain ⟨-, e3⟩ := m_c_s e2; cases e3; rfl))
    | (obtain ⟨x, e1, e2⟩ := m_ldj_s hs; cases e2; rfl)
    | (obtain ⟨x, e1, e2⟩ := m_lda_s hs; cases e2; rfl)
    | (obtain ⟨x, y, r, rfl, e1⟩ := m_ii_s hs; first | (cases e1; rfl) | (obtain ⟨-, e3⟩ := m_c_s e1; cases e3; rfl))
    | (obtain ⟨x, y, r, rfl, e1⟩ := m_jj_s hs; first | (cases e1; rfl) | (obtain ⟨-, e3⟩ := m_c_s e1; cases e3; rfl))
    | (obtain ⟨x, r, rfl, e1⟩ := m_i_s hs; first | (cases e1; rfl) | (obtain ⟨-, e3⟩ := m_c_s e1; cases e3; rfl))
    | (obtain ⟨x, r, rfl, e1⟩ := m_j_s hs; first | (cases e1; rfl) | (obtain ⟨-, e3⟩ := m_c_s e1; cases e3; rfl))
    | (obtain ⟨x, r, rfl, e1⟩ := m_a_s hs; first | (cases e1; rfl) | (obtain ⟨-, e3⟩ := m_c_s e1; cases e3; rfl))
    | (obtain ⟨x, r, rfl, e1⟩ := m_v_s hs; first | (cases e1; rfl) | (obtain ⟨-, e3⟩ := m_c_s e1; cases e3; rfl))
    | exact m_go_h hs
    | skip
  case dup2 =>
    obtain ⟨v, r, rfl, e1⟩ := m_v_s hs
    split at e1
    · cases e1
      rfl
    · obtain ⟨w, r2, rfl, e1⟩ := m_v_s e1
      obtain ⟨-, e3⟩ := m_c_s e1
      cases e3
      rfl
  case ldc_w ix =>
    simp only [m_sA] at hs
    split at hs <;> cases hs
    rfl
  case ldc ix =>
    simp only [m_sA] at hs
    split at hs <;> cases hs
    rfl
  case ifCond cd off =>
    obtain ⟨x, r, rfl, e1⟩ := m_i_s hs
    cases cd <;> exact m_br_h e1
  case if_icmp cd off =>
    obtain ⟨x, y, r, rfl, e1⟩ := m_ii_s hs
    cases cd <;> exact m_br_h e1
  case tableswitch dv lo hi offs =>
    obtain ⟨x, r, rfl, e1⟩ := m_i_s hs
    split at e1
    · exact m_go_h e1
    · split at e1
      · exact m_go_h e1
      · cases e1
  case lookupswitch dv ps =>
    obtain ⟨x, r, rfl, e1⟩ := m_i_s hs
    obtain ⟨-, e1⟩ := m_c_s e1
    exact m_go_h e1
theorem m_sB_h {X : List Int32} {k : Nat} {i : Instr} {pc : Nat} {L : m_L} {st : List Value} {h : m_H} {q : m_S} (hs : m_sB X k i pc L st h = some q) : q.2.2.2.length = h.length ∧ m_sl q.2.2.2 = m_sl h := by
  cases i
  all_goals first | (cases hs; done) | skip
  case getfield ix =>
    obtain ⟨a, r, rfl, e1⟩ := m_a_s hs
    split at e1
    · split at e1
      · obtain ⟨-, e1⟩ := m_c_s e1
        split at e1
        · cases e1
          exact ⟨rfl, rfl⟩
        · cases e1
      · cases e1
    · cases e1
  case putfield ix =>
    obtain ⟨a, v, r, rfl, e1⟩ := m_va_s hs
    split at e1
    · split at e1
      · next cc hc =>
        obtain ⟨h9, e1⟩ := m_c_s e1
        cases e1
        obtain ⟨tg, vs⟩ := cc
        exact ⟨List.length_set, m_sl_set hc List.length_set⟩
      · cases e1
    · cases e1
  case getstatic ix =>
    simp only [m_sB] at hs
    split at hs
    · cases hs
      exact ⟨rfl, rfl⟩
    · cases hs
  case iaload =>
    obtain ⟨a, j, r, rfl, e1⟩ := m_ai_s hs
    split at e1
    · split at e1
      · obtain ⟨-, e1⟩ := m_c_s e1
        cases e1
        exact ⟨rfl, rfl⟩
      · cases e1
    · obtain ⟨vs, v, -, -, -, e1⟩ := m_rd_s e1
      obtain ⟨x, rfl, e1⟩ := m_vi_s e1
      cases e1
      exact ⟨rfl, rfl⟩
  case laload =>
    obtain ⟨a, j, r, rfl, e1⟩ := m_ai_s hs
    obtain ⟨vs, v, -, -, -, e1⟩ := m_rd_s e1
    obtain ⟨x, rfl, e1⟩ := m_vj_s e1
    cases e1
    exact ⟨rfl, rfl⟩
  case aaload =>
    obtain ⟨a, j, r, rfl, e1⟩ := m_ai_s hs
    split at e1
    all_goals
      obtain ⟨vs, v, -, -, -, e1⟩ := m_rd_s e1
      obtain ⟨x, rfl, e1⟩ := m_vr_s e1
      cases e1
      exact ⟨rfl, rfl⟩
  case iastore =>
    obtain ⟨a, j, x, r, rfl, e1⟩ := m_aii_s hs
    obtain ⟨vs, hc, -, e1⟩ := m_wr_s e1
    cases e1
    exact ⟨List.length_set, m_sl_set hc List.length_set⟩
  case lastore =>
    obtain ⟨a, j, x, r, rfl, e1⟩ := m_aij_s hs
    obtain ⟨vs, hc, -, e1⟩ := m_wr_s e1
    cases e1
    exact ⟨List.length_set, m_sl_set hc List.length_set⟩
  case aastore =>
    obtain ⟨a, j, x, r, rfl, e1⟩ := m_aia_s hs
    obtain ⟨-, e1⟩ := m_c_s e1
    obtain ⟨vs, hc, -, e1⟩ := m_wr_s e1
    cases e1
    exact ⟨List.length_set, m_sl_set hc List.length_set⟩
  case arraylength =>
    obtain ⟨a, r, rfl, e1⟩ := m_a_s hs
    split at e1
    · cases e1
      exact ⟨rfl, rfl⟩
    · split at e1
      · obtain ⟨-, e1⟩ := m_c_s e1
        cases e1
        exact ⟨rfl, rfl⟩
      · cases e1
theorem m_al1_h {L : m_L} {st : List Value} {h : m_H} {c : Nat × List Value} {pc : Nat} {q : m_S} (e : m_al1 L st h c pc = some q) : h.length ≤ q.2.2.2.length ∧ m_sl h ≤ m_sl q.2.2.2 := by
  obtain ⟨-, -, -, -, rfl⟩ := m_al1_s e
  refine ⟨?_, ?_⟩
  · show h.length ≤ (h ++ [c]).length
    simp
  · show m_sl h ≤ m_sl (h ++ [c])
    rw [m_sl_app]
    omega
theorem m_sC_h {k : Nat} {i : Instr} {pc : Nat} {L : m_L} {st : List Value} {h : m_H} {q : m_S} (hs : m_sC k i pc L st h = some q) : h.length ≤ q.2.2.2.length ∧ m_sl h ≤ m_sl q.2.2.2 := by
  cases i
  all_goals first | (cases hs; done) | skip
  case new ix =>
    simp only [m_sC] at hs
    split at hs
    · exact m_al1_h hs
    · cases hs
  case newarray ty =>
    obtain ⟨n, r, rfl, e1⟩ := m_i_s hs
    obtain ⟨-, e1⟩ := m_c_s e1
    cases ty <;> first | (cases e1; done) | exact m_al1_h e1
  case anewarray ix =>
    obtain ⟨n, r, rfl, e1⟩ := m_i_s hs
    obtain ⟨-, e1⟩ := m_c_s e1
    exact m_al1_h e1
  case multianewarray ix dims =>
    obtain ⟨n, z, r, rfl, e1⟩ := m_ii_s hs
    obtain ⟨-, e2⟩ := m_c_s e1
    have e3 := Option.some.inj e2
    subst e3
    refine ⟨?_, ?_⟩
    · simp
    · unfold m_sl
      simp [List.map_append, List.sum_append]
  case invokespecial ix =>
    obtain ⟨a, r, rfl, e1⟩ := m_a_s hs
    obtain ⟨-, e1⟩ := m_c_s e1
    cases e1
    exact ⟨Nat.le_refl _, Nat.le_refl _⟩
  case invokestatic ix =>
    simp only [m_sC] at hs
    split at hs
    · obtain ⟨x, y, r, rfl, e1⟩ := m_ii_s hs
      obtain ⟨-, e1⟩ := m_c_s e1
      split at e1 <;> (cases e1; exact ⟨Nat.le_refl _, Nat.le_refl _⟩)
    · split at hs
      · split at hs
        · next c0 c1 hc0 hc1 =>
          obtain ⟨g, e1⟩ := m_c_s hs
          cases e1
          obtain ⟨t1, v1⟩ := c1
          refine ⟨by show h.length ≤ (h.set _ _).length; rw [List.length_set]; exact Nat.le_refl _, ?_⟩
          show m_sl h ≤ m_sl (h.set _ _)
          rw [m_sl_set hc1 (by rw [List.length_map, List.length_range])]
          exact Nat.le_refl _
        · cases hs
      · cases hs
theorem m_step_h {X : List Int32} {k : Nat} {i : Instr} {pc : Nat} {L : m_L} {st : List Value} {h : m_H} {q : m_S} (hs : m_step X k i pc L st h = some q) : h.length ≤ q.2.2.2.length ∧ m_sl h ≤ m_sl q.2.2.2 := by
  unfold m_step at hs
  split at hs
  · next q0 hq0 =>
    cases hs
    rw [m_sA_h hq0]
    exact ⟨Nat.le_refl _, Nat.le_refl _⟩
  · split at hs
    · next q0 hq0 =>
      cases hs
      obtain ⟨h1, h2⟩ := m_sB_h hq0
      rw [h1, h2]
      exact ⟨Nat.le_refl _, Nat.le_refl _⟩
    · exact m_sC_h hs
theorem m_run_h {X : List Int32} : ∀ (n d k pc : Nat) (L : m_L) (st : List Value) (h : m_H) (v : Option Value) (h' : m_H), m_run X n d k pc L st h = some (v, h') → h.length ≤ h'.length ∧ m_sl h ≤ m_sl h' := by
  intro n
  induction n with
  | zero => intro d k pc L st h v h' e; cases e
  | succ n ih =>
    intro d k pc L st h v h' e
    rw [m_run.eq_def] at e
    dsimp only at e
    split at e
    · cases e
    · split at e
      · split at e
        · cases e
          exact ⟨Nat.le_refl _, Nat.le_refl _⟩
        · split at e
          · split at e
            · cases e
            · split at e
              · split at e
                · next h1 hr =>
                  split at e
                  · have a1 := ih _ _ _ _ _ _ _ _ hr
                    have a2 := ih _ _ _ _ _ _ _ _ e
                    exact ⟨Nat.le_trans a1.1 a2.1, Nat.le_trans a1.2 a2.2⟩
                  · cases e
                · cases e
              · cases e
          · split at e
            · next q hq =>
              have a1 := m_step_h hq
              have a2 := ih _ _ _ _ _ _ _ _ e
              exact ⟨Nat.le_trans a1.1 a2.1, Nat.le_trans a1.2 a2.2⟩
            · cases e
      · cases e
