/-! the two constructors, run as they are: a run that never asks for the script is the same for every script -/
def m_no (st : List Value) : Bool := st.all (fun v => match v with
  | .ref a => decide (a < 1000)
  | _ => true)
def m_run0 : Nat → Nat → Nat → Nat → m_L → List Value → m_H → Option (Option Value × m_H)
  | 0, _, _, _, _, _, _ => none
  | n + 1, d, k, pc, L, st, h => match decode (m_b k) pc with
    | .error _ => none
    | .ok (i, len) => if len = m_ln i len then (match m_ret k i st with
      | some v => some (v, h)
      | none => match m_inv k i st h with
        | some (y, As, r) => match d with
          | 0 => none
          | d' + 1 => if (m_lay As).length ≤ m_n y then (match m_run0 n d' y 0 (m_ent y As) [] h with
            | some (v, h') => if m_okc L r h h' then m_run0 n (d' + 1) k (pc + 3) L (m_push v r) h' else none
            | none => none) else none
        | none => if m_no st then (match m_step [] k i pc L st h with
          | some q => m_run0 n d k q.1 q.2.1 q.2.2.1 q.2.2.2
          | none => none) else none) else none
def m_it (N : Nat) : Nat → Nat → Nat → Nat → m_L → List Value → m_H → Option m_S
  | 0, _, _, pc, L, st, h => some (pc, L, st, h)
  | j + 1, d, k, pc, L, st, h => match decode (m_b k) pc with
    | .error _ => none
    | .ok (i, len) => if len = m_ln i len then (match m_ret k i st with
      | some _ => none
      | none => match m_inv k i st h with
        | some (y, As, r) => match d with
          | 0 => none
          | d' + 1 => if (m_lay As).length ≤ m_n y then (match m_run0 N d' y 0 (m_ent y As) [] h with
            | some (v, h') => if m_okc L r h h' then m_it N j (d' + 1) k (pc + 3) L (m_push v r) h' else none
            | none => none) else none
        | none => if m_no st then (match m_step [] k i pc L st h with
          | some q => m_it N j d k q.1 q.2.1 q.2.2.1 q.2.2.2
          | none => none) else none) else none
theorem m_no_r {a : Nat} {st : List Value} (h : m_no (.ref a :: st) = true) : a < 1000 := by
  unfold m_no at h
  rw [List.all_cons, Bool.and_eq_true] at h
  exact of_decide_eq_true h.1
theorem m_no_t {v : Value} {st : List Value} (h : m_no (v :: st) = true) : m_no st = true := by
  unfold m_no at h ⊢
  rw [List.all_cons, Bool.and_eq_true] at h
  exact h.2
theorem m_sB_no (X : List Int32) {k pc : Nat} {i : Instr} {L : m_L} {st : List Value} {h : m_H} (hn : m_no st = true) : m_sB X k i pc L st h = m_sB [] k i pc L st h := by
  cases i <;> try rfl
  · show m_a st _ = m_a st _
    unfold m_a
    split
    · next a r =>
      have ha := m_no_r hn
      dsimp only
      rw [if_neg (by omega), if_neg (by omega)]
    · rfl
  · -- an int of an array
    show m_ai st _ = m_ai st _
    unfold m_ai
    split
    · next x a r =>
      have ha := m_no_r (m_no_t hn)
      dsimp only
      rw [if_neg (by omega), if_neg (by omega)]
    · rfl
theorem m_step_no (X : List Int32) {k pc : Nat} {i : Instr} {L : m_L} {st : List Value} {h : m_H} (hn : m_no st = true) : m_step X k i pc L st h = m_step [] k i pc L st h := by
  unfold m_step
  rw [m_sB_no X hn]
theorem m_run0_run (X : List Int32) : ∀ (n d k pc : Nat) (L : m_L) (st : List Value) (h : m_H) (r : Option Value × m_H), m_run0 n d k pc L st h = some r → m_run X n d k pc L st h = some r := by
  intro n
  induction n with
  | zero => intro d k pc L st h r e; cases e
  | succ n ih =>
    intro d k pc L st h r e
    rw [m_run0.eq_def] at e
    rw [m_run.eq_def]
    dsimp only at e ⊢
    split at e
    · cases e
    · next i len hdec =>
      try rw [hdec]
      try dsimp only
      split at e
      · next hlen =>
        try rw [if_pos hlen]
        split at e
        · next v hv =>
          try rw [hv]
          exact e
        · next hv =>
          try rw [hv]
          try dsimp only
          split at e
          · next y As q hi =>
            try rw [hi]
            try dsimp only
            split at e
            · cases e
            · next d' =>
              try dsimp only
              split at e
              · next hl =>
                try rw [if_pos hl]
                split at e
                · next v1 h1 hr =>
                  rw [ih _ _ _ _ _ _ _ hr]
                  dsimp only
                  split at e
                  · next hok =>
                    rw [if_pos hok]
                    exact ih _ _ _ _ _ _ _ e
                  · cases e
                · cases e
              · cases e
          · next hi =>
            try rw [hi]
            try dsimp only
            split at e
            · next hno =>
              rw [m_step_no X hno]
              split at e
              · next q hq =>
                try rw [hq]
                exact ih _ _ _ _ _ _ _ e
              · cases e
            · cases e
      · cases e
theorem m_it_run (X : List Int32) {N n : Nat} {r : Option Value × m_H} : ∀ (j d k pc : Nat) (L : m_L) (st : List Value) (h : m_H) (q : m_S), m_it N j d k pc L st h = some q → m_run X n d k q.1 q.2.1 q.2.2.1 q.2.2.2 = some r → m_run X (N + n + j) d k pc L st h = some r := by
  intro j
  induction j with
  | zero =>
    intro d k pc L st h q e hr
    have e : some (pc, L, st, h) = some q := e
    injection e with e
    subst e
    exact m_run_up _ _ _ _ _ _ _ _ hr (N + n + 0) d (by omega) (Nat.le_refl d)
  | succ j ih =>
    intro d k pc L st h q e hr
    rw [m_it.eq_def] at e
    rw [show N + n + (j + 1) = (N + n + j) + 1 by omega, m_run.eq_def]
    dsimp only at e ⊢
    split at e
    · cases e
    · next i len hdec =>
      try rw [hdec]
      try dsimp only
      split at e
      · next hlen =>
        try rw [if_pos hlen]
        split at e
        · cases e
        · next hv =>
          try rw [hv]
          try dsimp only
          split at e
          · next y As q' hi =>
            try rw [hi]
            try dsimp only
            split at e
            · cases e
            · next d' =>
              try dsimp only
              split at e
              · next hl =>
                try rw [if_pos hl]
                split at e
                · next v1 h1 hr1 =>
                  rw [m_run_up _ _ _ _ _ _ _ _ (m_run0_run X _ _ _ _ _ _ _ _ hr1) (N + n + j) d' (by omega) (Nat.le_refl d')]
                  dsimp only
                  split at e
                  · next hok =>
                    rw [if_pos hok]
                    exact ih _ _ _ _ _ _ _ e hr
                  · cases e
                · cases e
              · cases e
          · next hi =>
            try rw [hi]
            try dsimp only
            split at e
            · next hno =>
              rw [m_step_no X hno]
              split at e
              · next q' hq =>
                try rw [hq]
                exact ih _ _ _ _ _ _ _ e hr
              · cases e
            · cases e
      · cases e
