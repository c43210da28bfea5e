/-! runs, stage by stage -/
theorem m_run0_up : ∀ (n d k pc : Nat) (L : m_L) (st : List Value) (h : m_H) (r : Option Value × m_H), m_run0 n d k pc L st h = some r → ∀ n' : Nat, n ≤ n' → m_run0 n' d k pc L st h = some r := by
  intro n
  induction n with
  | zero => intro d k pc L st h r e; cases e
  | succ n ih =>
    intro d k pc L st h r e n' hn
    obtain ⟨n', rfl⟩ : ∃ z, n' = z + 1 := ⟨n' - 1, by omega⟩
    rw [m_run0.eq_def] at e ⊢
    dsimp only at e ⊢
    split at e
    · cases e
    · next i len hdec =>
      try rw [hdec]
      try dsimp only
      split at e
      · next hlen =>
        try rw [if_pos hlen]
        split at e
        · next v hv =>
          try rw [hv]
          exact e
        · next hv =>
          try rw [hv]
          try dsimp only
          split at e
          · next y As q hi =>
            try rw [hi]
            try dsimp only
            split at e
            · cases e
            · next d' =>
              try dsimp only
              split at e
              · next hl =>
                try rw [if_pos hl]
                split at e
                · next v1 h1 hr =>
                  rw [ih _ _ _ _ _ _ _ hr n' (by omega)]
                  dsimp only
                  split at e
                  · next hok =>
                    rw [if_pos hok]
                    exact ih _ _ _ _ _ _ _ e n' (by omega)
                  · cases e
                · cases e
              · cases e
          · next hi =>
            try rw [hi]
            try dsimp only
            split at e
            · next hno =>
              try rw [if_pos hno]
              split at e
              · next q hq =>
                try rw [hq]
                exact ih _ _ _ _ _ _ _ e n' (by omega)
              · cases e
            · cases e
      · cases e
def Rz (d k pc : Nat) (L : m_L) (st : List Value) (h : m_H) (r : Option Value × m_H) : Prop := ∃ n, m_run0 n d k pc L st h = some r
def Rx (X : List Int32) (d k pc : Nat) (L : m_L) (st : List Value) (h : m_H) (r : Option Value × m_H) : Prop := ∃ n, m_run X n d k pc L st h = some r
theorem m_it_run0 {N n : Nat} {r : Option Value × m_H} : ∀ (j d k pc : Nat) (L : m_L) (st : List Value) (h : m_H) (q : m_S), m_it N j d k pc L st h = some q → m_run0 n d k q.1 q.2.1 q.2.2.1 q.2.2.2 = some r → m_run0 (N + n + j) d k pc L st h = some r := by
  intro j
  induction j with
  | zero =>
    intro d k pc L st h q e hr
    have e : some (pc, L, st, h) = some q := e
    injection e with e
    subst e
    exact m_run0_up _ _ _ _ _ _ _ _ hr (N + n + 0) (by omega)
  | succ j ih =>
    intro d k pc L st h q e hr
    rw [m_it.eq_def] at e
    rw [show N + n + (j + 1) = (N + n + j) + 1 by omega, m_run0.eq_def]
    dsimp only at e ⊢
    split at e
    · cases e
    · next i len hdec =>
      try rw [hdec]
      try dsimp only
      split at e
      · next hlen =>
        try rw [if_pos hlen]
        split at e
        · cases e
        · next hv =>
          try rw [hv]
          try dsimp only
          split at e
          · next y As q' hi =>
            try rw [hi]
            try dsimp only
            split at e
            · cases e
            · next d' =>
              try dsimp only
              split at e
              · next hl =>
                try rw [if_pos hl]
                split at e
                · next v1 h1 hr1 =>
                  rw [m_run0_up _ _ _ _ _ _ _ _ hr1 (N + n + j) (by omega)]
                  dsimp only
                  split at e
                  · next hok =>
                    rw [if_pos hok]
                    exact ih _ _ _ _ _ _ _ e hr
                  · cases e
                · cases e
              · cases e
          · next hi =>
            try rw [hi]
            try dsimp only
            split at e
            · next hno =>
              try rw [if_pos hno]
              split at e
              · next q' hq =>
                try rw [hq]
                exact ih _ _ _ _ _ _ _ e hr
              · cases e
            · cases e
      · cases e
section STG
variable {X : List Int32} {d k pc ix y j : Nat} {L : m_L} {st r As : List Value} {h h' : m_H} {v : Option Value} {R : Option Value × m_H} {q : m_S}
theorem Rz_seg (e : m_it 0 j d k pc L st h = some q) (hr : Rz d k q.1 q.2.1 q.2.2.1 q.2.2.2 R) : Rz d k pc L st h R := by
  obtain ⟨n, hn⟩ := hr
  exact ⟨_, m_it_run0 j d k pc L st h q e hn⟩
theorem Rx_seg (e : m_it 0 j d k pc L st h = some q) (hr : Rx X d k q.1 q.2.1 q.2.2.1 q.2.2.2 R) : Rx X d k pc L st h R := by
  obtain ⟨n, hn⟩ := hr
  exact ⟨_, m_it_run X j d k pc L st h q e hn⟩
theorem Rz_ret (f : F k pc .return_ (pc + 1)) (hr : m_r k = none) : Rz d k pc L [] h (none, h) := by
  obtain ⟨l, f1, f2, f3⟩ := f
  refine ⟨1, ?_⟩
  rw [m_run0.eq_def]
  dsimp only
  rw [f1]
  dsimp only
  rw [if_pos f2]
  show (match (if m_r k = none then some none else none : Option (Option Value)) with | some v => some (v, h) | none => _) = _
  rw [if_pos hr]
theorem Rz_call (f : F k pc (.invokespecial ix) (pc + 3)) (hi : m_inv k (.invokespecial ix) st h = some (y, As, r)) (hm : (m_lay As).length ≤ m_n y) (ho : m_okc L r h h' = true) (hc : Rz d y 0 (m_ent y As) [] h (v, h')) (hr : Rz (d + 1) k (pc + 3) L (m_push v r) h' R) : Rz (d + 1) k pc L st h R := by
  obtain ⟨l, f1, f2, f3⟩ := f
  obtain ⟨n1, c1⟩ := hc
  obtain ⟨n2, c2⟩ := hr
  refine ⟨n1 + n2 + 1, ?_⟩
  rw [m_run0.eq_def]
  dsimp only
  rw [f1]
  dsimp only
  rw [if_pos f2]
  show (match m_inv k (.invokespecial ix) st h with | some (y, As, r) => _ | none => _) = _
  rw [hi]
  dsimp only
  rw [if_pos hm, m_run0_up _ _ _ _ _ _ _ _ c1 (n1 + n2) (by omega)]
  dsimp only
  rw [if_pos ho]
  exact m_run0_up _ _ _ _ _ _ _ _ c2 (n1 + n2) (by omega)
theorem Rx_call (f : F k pc (.invokespecial ix) (pc + 3)) (hi : m_inv k (.invokespecial ix) st h = some (y, As, r)) (hm : (m_lay As).length ≤ m_n y) (ho : m_okc L r h h' = true) (hc : Rz d y 0 (m_ent y As) [] h (v, h')) (hr : Rx X (d + 1) k (pc + 3) L (m_push v r) h' R) : Rx X (d + 1) k pc L st h R := by
  obtain ⟨l, f1, f2, f3⟩ := f
  obtain ⟨n1, c1⟩ := hc
  obtain ⟨n2, c2⟩ := hr
  refine ⟨n1 + n2 + 1, ?_⟩
  rw [m_run.eq_def]
  dsimp only
  rw [f1]
  dsimp only
  rw [if_pos f2]
  show (match m_inv k (.invokespecial ix) st h with | some (y, As, r) => _ | none => _) = _
  rw [hi]
  dsimp only
  rw [if_pos hm, m_run_up _ _ _ _ _ _ _ _ (m_run0_run X _ _ _ _ _ _ _ _ c1) (n1 + n2) d (by omega) (Nat.le_refl d)]
  dsimp only
  rw [if_pos ho]
  exact m_run_up _ _ _ _ _ _ _ _ c2 (n1 + n2) (d + 1) (by omega) (Nat.le_refl _)
end STG
