/-! natives: Math.max, Math.min, System.arraycopy; then the step of the little machine is a step of the machine -/
theorem m_nat_ok : m_has 2044 (.native arraycopyName) = true := by decide +kernel
theorem m_natw : nativeFrameWords "java/lang/System" "arraycopy" 5 + 11 ≤ 72 := by decide +kernel
section MSD
variable {p : Program} {l : Launch} {e : Env} {R : Room} {s : State} {m : MethodId} {args : Array Value} {below : List Frame} {meth : Method} {c : Code} {H : Heap} {locs : List Loc} {cells slots : Nat} {Q : State → Prop}
variable {k pc len nL N0 S0 : Nat} {X : List Int32} {D : va_G} {dA : Nat → ClassId} {A : Nat → Prop} {ad0 ad : Nat → Nat} {L : m_L} {st : List Value} {h : m_H} {ls : Array Slot} {q : m_S}
theorem ms_static {ix : Nat} (C : m_C k X p R s m args meth c D dA A ad0) (I : m_I D dA A s ad0 ad N0 S0 h H locs cells slots) (hl : m_lo ls (m_n k) L ad) (hR : q.2.2.2.length ≤ R.cells + N0 ∧ m_sl q.2.2.2 ≤ R.slots + S0) (hd : decode (m_b k) pc = .ok (.invokestatic ix, m_ln (.invokestatic ix) len)) (hs : m_sC k (.invokestatic ix) pc L st h = some q) (kk : m_KK p l e R s m args below meth c Q D dA A ad0 N0 S0 (m_n k) q) : W p l e R s m args below meth c H locs cells slots Q (F0 m pc ls (st.map (m_cv ad))) := by
  have hx := C.1
  have hb := C.2.1
  have hml : c.maxLocals = ls.size := C.2.2.1.trans hl.1.symm
  have hfr := C.2.2.2.2.2.2.2.2.2.2.1
  have hlo := C.2.2.2.2.2.2.2.2.2.2.2.1
  have i4 := I.2.2.2.1
  have i5 := I.2.2.2.2.1
  simp only [m_sC] at hs
  split at hs
  · next e9 he9 =>
    obtain ⟨x, y, r, rfl, e1⟩ := m_ii_s hs
    obtain ⟨h2, e1⟩ := m_c_s e1
    obtain ⟨wi, hw⟩ := m_mm_use he9
    have hsum : (((r.map (m_cv ad)).map fun v => v.category).sum) + 13 ≤ R.locals := by rw [m_sum_cv]; omega
    rcases hw with ⟨h0, w1, w2, w3⟩ | ⟨h0, w1, w2, w3⟩
    · rw [if_pos h0] at e1
      cases e1
      dsimp only at hR
      exact va_mmax hx hb hml C.2.2.2.1 (C.2.2.2.2.1 _ w1) (C.2.2.2.2.1 _ w2) (C.2.2.2.2.1 _ wi) (C.2.2.2.2.1 _ w3) hfr hsum (by omega) (by omega) hd (kk ad H locs cells slots ls I hl)
    · rw [if_neg (by rw [h0]; decide)] at e1
      cases e1
      dsimp only at hR
      exact va_mmin hx hb hml C.2.2.2.1 (C.2.2.2.2.1 _ w1) (C.2.2.2.2.1 _ w2) (C.2.2.2.2.1 _ wi) (C.2.2.2.2.1 _ w3) hfr hsum (by omega) (by omega) hd (kk ad H locs cells slots ls I hl)
  · split at hs
    · next n dp a sp a0 r =>
      split at hs
      · next c0 c1 hc0 hc1 =>
        obtain ⟨⟨g1, g2, g3, g4, g5, g6, g7, g8, g9⟩, e1⟩ := m_c_s hs
        cases e1
        obtain ⟨t0, v0⟩ := c0
        obtain ⟨t1, v1⟩ := c1
        obtain rfl : t0 = 20 := g3
        obtain rfl : t1 = 20 := g4
        obtain ⟨w1, w2, w3⟩ := m_ac_use g1
        have hw0 := m_ws_at (dA := dA) (ad := ad) hc0
        rw [m_ent1_20] at hw0
        have hw1 := m_ws_at (dA := dA) (ad := ad) hc1
        rw [m_ent1_20] at hw1
        refine va_copyi (ty := .int) hx hb hml C.2.2.2.1 (C.2.2.2.2.1 _ w1) (C.2.2.2.2.1 _ (m_has_mem m_nat_ok)) (C.2.2.2.2.1 _ w2) (C.2.2.2.2.1 _ w3) C.2.2.2.2.2.2.1 I.1 I.2.1 I.2.2.1 a0 a 0 0 hw0 hw1 rfl rfl rfl g5 g6 g7 g8 g9 (fun _ _ => rfl) hfr ?_ hd fun H1 locs1 hP hD hS => ?_
        · rw [m_sum_cv]
          have := m_natw
          omega
        · have ee : (.inl (dA 20, v1.length, .inl (va_cpy (fun j => m_toI (v0.getD j .null)) (fun j => m_toI (v1.getD j .null)) sp.toNatClampNeg dp.toNatClampNeg n.toNatClampNeg)) : va_E) = m_ent1 dA ad (20, (List.range v1.length).map (fun j => if dp.toNatClampNeg ≤ j ∧ j < dp.toNatClampNeg + n.toNatClampNeg then v0.getD (sp.toNatClampNeg + (j - dp.toNatClampNeg)) .null else v1.getD j .null)) := by
            rw [m_ent1_20, List.length_map, List.length_range]
            congr 4
            funext j
            unfold va_cpy
            by_cases hj : j < v1.length
            · rw [List.getD_eq_getElem?_getD (l := List.map _ _), List.getElem?_map, List.getElem?_range hj]
              dsimp only [Option.map_some, Option.getD_some]
              split <;> rfl
            · have g9' : dp.toNatClampNeg + n.toNatClampNeg ≤ v1.length := g9
              rw [if_neg (by omega), List.getD_eq_getElem?_getD (l := List.map _ _), List.getElem?_eq_none (by rw [List.length_map, List.length_range]; omega)]
              show m_toI (v1.getD j .null) = _
              rw [List.getD_eq_getElem?_getD, List.getElem?_eq_none (by omega)]
          rw [ee] at hP hD
          exact kk ad H1 locs1 cells slots ls (m_I_set I hc1 (by rw [List.length_map, List.length_range]) hP hD hS) hl
      · cases hs
    · cases hs
end MSD
