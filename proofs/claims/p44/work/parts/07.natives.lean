/-! natives: Math.max, Math.min, System.arraycopy; then the step of the little machine is a step of the machine -/
section MSD
variable {p : Program} {l : Launch} {e : Env} {R : Room} {s : State} {m : MethodId} {args : Array Value} {below : List Frame} {meth : Method} {c : Code} {H : Heap} {locs : List Loc} {cells slots : Nat} {Q : State → Prop}
variable {k pc len nL N0 S0 : Nat} {X : List Int32} {D : va_G} {dA : Nat → ClassId} {A : Nat → Prop} {ad0 ad : Nat → Nat} {L : m_L} {st : List Value} {h : m_H} {ls : Array Slot} {q : m_S}
theorem ms_static {ix : Nat} (C : m_C k X p R s m args meth c D dA A ad0) (I : m_I D dA A s ad0 ad N0 S0 h H locs cells slots) (hl : m_lo ls (m_n k) L ad) (hR : q.2.2.2.length ≤ R.cells + N0 ∧ m_sl q.2.2.2 ≤ R.slots + S0) (hd : decode (m_b k) pc = .ok (.invokestatic ix, m_ln (.invokestatic ix) len)) (hs : m_sC k (.invokestatic ix) pc L st h = some q) (kk : m_KK p l e R s m args below meth c Q D dA A ad0 N0 S0 (m_n k) q) : W p l e R s m args below meth c H locs cells slots Q (F0 m pc ls (st.map (m_cv ad))) := by
  have hx := C.1
  have hb := C.2.1
  have hml : c.maxLocals = ls.size := C.2.2.1.trans hl.1.symm
  have hfr := C.2.2.2.2.2.2.2.2.2.2.1
  have hlo := C.2.2.2.2.2.2.2.2.2.2.2.1
  have i4 := I.2.2.2.1
  have i5 := I.2.2.2.2.1
  simp only [m_sC] at hs
  split at hs
  · next e9 he9 =>
    obtain ⟨x, y, r, rfl, e1⟩ := m_ii_s hs
    obtain ⟨h2, e1⟩ := m_c_s e1
    obtain ⟨wi, hw⟩ := m_mm_use he9
    have hsum : (((r.map (m_cv ad)).map fun v => v.category).sum) + 13 ≤ R.locals := by rw [m_sum_cv]; omega
    rcases hw with ⟨h0, w1, w2, w3⟩ | ⟨h0, w1, w2, w3⟩
    · rw [if_pos h0] at e1
      cases e1
      dsimp only at hR
      exact va_mmax hx hb hml C.2.2.2.1 (C.2.2.2.2.1 _ w1) (C.2.2.2.2.1 _ w2) (C.2.2.2.2.1 _ wi) (C.2.2.2.2.1 _ w3) hfr hsum (by omega) (by omega) hd (kk ad H locs cells slots ls I hl)
    · rw [if_neg (by rw [h0]; decide)] at e1
      cases e1
      dsimp only at hR
      exact va_mmin hx hb hml C.2.2.2.1 (C.2.2.2.2.1 _ w1) (C.2.2.2.2.1 _ w2) (C.2.2.2.2.1 _ wi) (C.2.2.2.2.1 _ w3) hfr hsum (by omega) (by omega) hd (kk ad H locs cells slots ls I hl)
  · split at hs
    · next n dp a sp a0 r =>
      split at hs
      · next c0 c1 hc0 hc1 =>
        obtain ⟨⟨g1, g2, g3, g4, g5, g6, g7, g8, g9⟩, e1⟩ := m_c_s hs
        cases e1
        obtain ⟨t0, v0⟩ := c0
        obtain ⟨t1, v1⟩ := c1
        obtain rfl : t0 = 20 := g3
        obtain rfl : t1 = 20 := g4
        exact absurd g1 (by show ¬ ((none : Option Nat).isSome = true); simp)
      · cases hs
    · cases hs
end MSD
