section OPR
variable {X : List Int32} {d : Nat} {s : m_St} {P : Option Value → m_St → Prop} {w : Int}
theorem digest_M (h : J s) (kk : P (some (vJ (dg6 s))) s) : Cl X (d + 13) 254 [vR 77] s P := by
  have h7 := J_7 h
  have hv := h.v
  obtain ⟨r0, r1, r2, r3, r4, r5, r6⟩ := hv.1
  have hk := h.2.2.2.2.1.2
  obtain ⟨q1, q2, q3, q4, q5, q6, q7, q8, q9, q10, q11, q12⟩ := hv.2.1
  have s7 : ∀ (m : Nat) (k : Int) (z4 : Option Value), 0 ≤ k → k + m = 4 → Rn X (d + 13) 254 216 [some (vR 77), some (vJ (hrs (s 11) (fun r => s (13 + r)) (dg5 s) k.toNat)), none, some (vI k), z4] [] s P := by
    intro m
    induction m with
    | zero =>
      intro k z4 k0 km
      have : k = 4 := by omega
      subst this
      apply t_X6_digest_216 k0 <;> intros
      all_goals first | exact kk | omega
    | succ m ih =>
      intro k z4 k0 km
      obtain ⟨a1, a2, a3, a4⟩ := h.2.1.2 k k0 (by omega)
      have up := hrs_up (z := s 11) (f := fun r => s (13 + r)) (h := dg5 s) k0
      have inner : ∀ (m2 : Nat) (q : Int), 0 ≤ q → (q + m2 = s 11 k ∨ (m2 = 0 ∧ q = 0 ∧ s 11 k = -1)) → Rn X (d + 13) 254 238 [some (vR 77), some (vJ (hr (s (13 + k)) (31 * hrs (s 11) (fun r => s (13 + r)) (dg5 s) k.toNat + s 11 k) q.toNat)), none, some (vI k), some (vI q)] [] s P := by
        intro m2
        induction m2 with
        | zero =>
          intro q qq0 hq
          have hx := ih (k + 1) (some (vI q)) (by omega) (by omega)
          rw [up] at hx
          have e : (s 11 k).toNat = q.toNat := by omega
          rw [e] at hx
          apply t_X6_digest_238 k0 <;> intros
          all_goals first | exact hx | omega
        | succ m2 ih2 =>
          intro q qq0 hq
          have hx := ih2 (q + 1) (by omega) (by omega)
          rw [hr_up qq0] at hx
          have aq := a4 q qq0 (by omega)
          have ev : s 82 (60 * k + q) = s (13 + k) q := aq.2.2
          apply t_X6_digest_238 k0 <;> intros
          all_goals first | (rw [ev]; exact hx) | omega
      have hx := inner (s 11 k).toNat 0 (by omega) (by omega)
      have e0 : (0 : Int).toNat = 0 := rfl
      rw [e0] at hx
      have hx2 : Rn X (d + 13) 254 238 [some (vR 77), some (vJ (31 * hrs (s 11) (fun r => s (13 + r)) (dg5 s) k.toNat + s 81 k)), none, some (vI k), some (vI 0)] [] s P := by rw [a3]; exact hx
      apply t_X6_digest_216 k0 <;> intros
      all_goals first | exact hx2 | omega
  have s6 : ∀ (m : Nat) (k : Int) (z4 : Option Value), 0 ≤ k → k + m = 6 → Rn X (d + 13) 254 148 [some (vR 77), some (vJ (hrs (s 2) (fun r => s (4 + r)) (dg4 s) k.toNat)), none, some (vI k), z4] [] s P := by
    intro m
    induction m with
    | zero =>
      intro k z4 k0 km
      have : k = 6 := by omega
      subst this
      have hx := s7 4 0 z4 (by omega) (by omega)
      apply t_X6_digest_148 k0 <;> intros
      all_goals first | exact hx | omega
    | succ m ih =>
      intro k z4 k0 km
      obtain ⟨a1, a2, a3, a4⟩ := h.1.2 k k0 (by omega)
      have up := hrs_up (z := s 2) (f := fun r => s (4 + r)) (h := dg4 s) k0
      have inner : ∀ (m2 : Nat) (q : Int), 0 ≤ q → (q + m2 = s 2 k ∨ (m2 = 0 ∧ q = 0 ∧ s 2 k = -1)) → Rn X (d + 13) 254 171 [some (vR 77), some (vJ (hr (s (4 + k)) (31 * hrs (s 2) (fun r => s (4 + r)) (dg4 s) k.toNat + s 2 k) q.toNat)), none, some (vI k), some (vI q)] [] s P := by
        intro m2
        induction m2 with
        | zero =>
          intro q qq0 hq
          have hx := ih (k + 1) (some (vI q)) (by omega) (by omega)
          rw [up] at hx
          have e : (s 2 k).toNat = q.toNat := by omega
          rw [e] at hx
          apply t_X6_digest_171 k0 <;> intros
          all_goals first | exact hx | omega
        | succ m2 ih2 =>
          intro q qq0 hq
          have hx := ih2 (q + 1) (by omega) (by omega)
          rw [hr_up qq0] at hx
          have aq := a4 q qq0 (by omega)
          have ev : s 79 (40 * k + q) = s (4 + k) q := aq.2
          have ei := aq.1
          rw [← ev] at ei
          apply t_X6_digest_171 k0 <;> intros
          all_goals first | (rw [ev]; exact hx) | exact ei | omega
      have hx := inner (s 2 k).toNat 0 (by omega) (by omega)
      have e0 : (0 : Int).toNat = 0 := rfl
      rw [e0] at hx
      have hx2 : Rn X (d + 13) 254 171 [some (vR 77), some (vJ (31 * hrs (s 2) (fun r => s (4 + r)) (dg4 s) k.toNat + s 78 k)), none, some (vI k), some (vI 0)] [] s P := by rw [a3]; exact hx
      apply t_X6_digest_148 k0 <;> intros
      all_goals first | exact hx2 | omega
  have s5 : ∀ (m : Nat) (k : Int), 0 ≤ k → k + m = 3 → Rn X (d + 13) 254 102 [some (vR 77), some (vJ (hr (s 18) (dg3 s) k.toNat)), none, some (vI k), none] [] s P := by
    intro m
    induction m with
    | zero =>
      intro k k0 km
      have : k = 3 := by omega
      subst this
      have hx := s6 6 0 none (by omega) (by omega)
      apply t_X6_digest_102 k0 <;> intros
      all_goals first | exact hx | omega
    | succ m ih =>
      intro k k0 km
      have hx := ih (k + 1) (by omega) (by omega)
      rw [hr_up k0] at hx
      obtain ⟨b1, b2, b3, b4⟩ := hk k k0 (by omega)
      by_cases hz : s 18 k = -1
      · have b3 := b3 hz
        rw [hz] at hx
        clear b4
        apply t_X6_digest_102 k0 <;> intros
        all_goals first | exact hx | omega
      · obtain ⟨b5, b6⟩ := b4 hz
        have e3 : s 85 (198 * k + 3) = s 18 k := b6.2.2.1
        clear b3 b4
        apply t_X6_digest_102 k0 <;> intros
        all_goals first | (rw [e3]; exact hx) | omega
  have s4 : ∀ (m : Nat) (k : Int), 0 ≤ k → k + m = 7 * s 83 0 → Rn X (d + 13) 254 61 [some (vR 77), some (vJ (hr (gv s) (dg2 s) k.toNat)), none, some (vI k), none] [] s P := by
    intro m
    induction m with
    | zero =>
      intro k k0 km
      have e : k = 7 * s 83 0 := by omega
      have hx := s5 3 0 (by omega) (by omega)
      have e0 : (0 : Int).toNat = 0 := rfl
      rw [e0] at hx
      have hx : Rn X (d + 13) 254 102 [some (vR 77), some (vJ (dg3 s)), none, some (vI 0), none] [] s P := hx
      unfold dg3 at hx
      rw [h7.2.2.2.1, ← e] at hx
      apply t_X6_digest_61 k0 <;> intros
      all_goals first | exact hx | omega
    | succ m ih =>
      intro k k0 km
      have hx := ih (k + 1) (by omega) (by omega)
      rw [hr_up k0] at hx
      have i0 : 0 ≤ k / 7 := by omega
      have i1 : k / 7 < s 83 0 := by omega
      have kx := q12 (k / 7) i0 i1
      have ek := (r6 (k / 7) i0 i1).1
      have ew := (r6 (k / 7) i0 i1).2
      have eh := hv.h i0 i1
      have egv : gv s k = tv s (k / 7) (k % 7) := rfl
      rw [egv] at hx
      have fin : ∀ v, v = tv s (k / 7) (k % 7) → Rn X (d + 13) 254 61 [some (vR 77), some (vJ (31 * hr (gv s) (dg2 s) k.toNat + v)), none, some (vI (k + 1)), none] [] s P := fun v hv => by rw [hv]; exact hx
      have fin0 : 0 = tv s (k / 7) (k % 7) → Rn X (d + 13) 254 61 [some (vR 77), some (vJ (31 * hr (gv s) (dg2 s) k.toNat)), none, some (vI (k + 1)), none] [] s P := fun hv => by have := fin 0 hv; rw [Int.add_zero] at this; exact this
      have e5 : k % 7 = 5 → tv s (k / 7) (k % 7) = hld (s 83) (k / 7) := fun hw => by rw [hw]; exact eh
      have e6 : k % 7 = 6 → tv s (k / 7) (k % 7) = if s 83 5 = k / 7 + 1 then 1 else if s 83 6 = k / 7 + 1 then 2 else 0 := fun hw => by
        rw [hw]
        show (if k / 7 = s 38 7 then (1 : Int) else if k / 7 = s 38 8 then 2 else 0) = _
        by_cases g1 : k / 7 = s 38 7
        · rw [if_pos g1, if_pos (show s 83 5 = k / 7 + 1 by omega)]
        · rw [if_neg g1, if_neg (show ¬ s 83 5 = k / 7 + 1 by omega)]
          by_cases g2 : k / 7 = s 38 8
          · rw [if_pos g2, if_pos (show s 83 6 = k / 7 + 1 by omega)]
          · rw [if_neg g2, if_neg (show ¬ s 83 6 = k / 7 + 1 by omega)]
      have eo : ¬ k % 7 = 5 → ¬ k % 7 = 6 → tv s (k / 7) (k % 7) = s 83 (8 + 5 * (k / 7) + k % 7) ∧ inR (s 83 (8 + 5 * (k / 7) + k % 7)) := fun h5 h6 => by
        by_cases h0 : k % 7 = 0
        · rw [h0, show 8 + 5 * (k / 7) + 0 = 8 + 5 * (k / 7) by omega]
          exact ⟨ek, by omega⟩
        · have hw := kx.2.2 (k % 7 - 1) (by omega) (by omega)
          rw [show 9 + 5 * (k / 7) + (k % 7 - 1) = 8 + 5 * (k / 7) + k % 7 by omega] at hw
          refine ⟨?_, inR20 hw⟩
          unfold tv
          rw [if_neg h0, if_neg h5, if_neg h6, ew _ (by omega) (by omega), show 9 + 5 * (k / 7) + (k % 7 - 1) = 8 + 5 * (k / 7) + k % 7 by omega]
      apply t_X6_digest_61 k0 <;> intros
      all_goals first | (refine fin _ ?_; rw [(eo (by assumption) (by assumption)).1]; done) | (exact (eo (by assumption) (by assumption)).2) | (refine fin0 ?_; rw [e6 (by assumption), if_neg (by assumption), if_neg (by assumption)]; done) | (refine fin _ ?_; rw [e6 (by assumption), if_neg (by assumption), if_pos (by assumption)]; done) | (refine fin _ ?_; rw [e6 (by assumption), if_pos (by assumption)]; done) | (exact fin _ (e5 (by assumption)).symm) | exact hv.2 | exact i1 | (clear e5 e6 eo; omega)
  have s3 : ∀ (m : Nat) (k : Int), 0 ≤ k → k + m = 4 → Rn X (d + 13) 254 33 [some (vR 77), some (vJ (hr (clv s) (dg1 s) k.toNat)), none, some (vI k), none] [] s P := by
    intro m
    induction m with
    | zero =>
      intro k k0 km
      have : k = 4 := by omega
      subst this
      have hx := s4 (7 * s 83 0).toNat 0 (by omega) (by omega)
      apply t_X6_digest_33 k0 <;> intros
      all_goals first | exact hx | omega
    | succ m ih =>
      intro k k0 km
      have hx := ih (k + 1) (by omega) (by omega)
      rw [hr_up k0] at hx
      have cr := clv_r h k0 (by omega)
      apply t_X6_digest_33 k0 <;> intros
      all_goals first | exact hx | exact cr | exact hv.2.2 | exact shl4_r k0 (by omega) | omega
  have s2 : ∀ (m : Nat) (k : Int), 0 ≤ k → k + m = 11 → Rn X (d + 13) 254 6 [some (vR 77), some (vJ (hr (cnv s) 17 k.toNat)), none, some (vI k), none] [] s P := by
    intro m
    induction m with
    | zero =>
      intro k k0 km
      have : k = 11 := by omega
      subst this
      have hx := s3 4 0 (by omega) (by omega)
      apply t_X6_digest_6 k0 <;> intros
      all_goals first | exact hx | omega
    | succ m ih =>
      intro k k0 km
      have hx := ih (k + 1) (by omega) (by omega)
      rw [hr_up k0] at hx
      have cr := cnv_r h k0 (by omega)
      apply t_X6_digest_6 k0 <;> intros
      all_goals first | exact hx | exact h | exact cr | omega
  exact t_X6_digest (s2 11 0 (by omega) (by omega))
theorem op_digest (h : J s) : Cl X (d + 20) 155 [vR 0] s (PwJ X (d + 20) 254 [vR 77]) :=
  digest_C (d := d + 7) h (PwJ_mk (digest_M (d := d + 7) h ⟨rfl, h⟩))
end OPR
