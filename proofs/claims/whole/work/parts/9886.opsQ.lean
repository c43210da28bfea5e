/-! calls side by side: digests -/
def tv (s : m_St) (i w : Int) : Int := if w = 0 then s (44 + 4 * i) 1 else if w = 5 then s (44 + 4 * i) 2 else if w = 6 then (if i = s 38 7 then 1 else if i = s 38 8 then 2 else 0) else s (44 + 4 * i + 1) (w - 1)
def gv (s : m_St) (q : Int) : Int := tv s (q / 7) (q % 7)
def clv (s : m_St) (k : Int) : Int := clo (s 38 5) (iShl 1 k)
def dg1 (s : m_St) : Int := hr (cnv s) 17 11
def dg2 (s : m_St) : Int := hr (clv s) (dg1 s) 4
def dg3 (s : m_St) : Int := hr (gv s) (dg2 s) (7 * s 38 3).toNat
def dg4 (s : m_St) : Int := hr (s 18) (dg3 s) 3
def dg5 (s : m_St) : Int := hrs (s 2) (fun r => s (4 + r)) (dg4 s) 6
def dg6 (s : m_St) : Int := hrs (s 11) (fun r => s (13 + r)) (dg5 s) 4
theorem shl4 : ∀ k : Fin 4, 0 ≤ iShl 1 ((k : Nat) : Int) ∧ iShl 1 ((k : Nat) : Int) < 16 := by decide +kernel
theorem shl4_r {k : Int} (k0 : 0 ≤ k) (k4 : k < 4) : r16 (iShl 1 k) := by
  have e : ((k.toNat : Nat) : Int) = k := by omega
  have := shl4 ⟨k.toNat, by omega⟩
  rw [show (((⟨k.toNat, by omega⟩ : Fin 4) : Nat) : Int) = k from e] at this
  exact this
section OPQ
variable {X : List Int32} {d : Nat} {s : m_St} {P : Option Value → m_St → Prop} {w : Int}
theorem cnv_r (h : J s) (w0 : 0 ≤ w) (w1 : w < 11) : inR (cnv s w) := by
  have h7 := J_7 h
  have h9 := J_9 h
  have hv := h.v
  obtain ⟨r0, r1, r2, r3, r4, r5, r6⟩ := hv.1
  obtain ⟨k1, k2, k3, k4, k5, k6, k7, k8, k9, k10, k11, k12⟩ := hv.2.1
  have ht := tr_count hv.2.2
  have : w = 0 ∨ w = 1 ∨ w = 2 ∨ w = 3 ∨ w = 4 ∨ w = 5 ∨ w = 6 ∨ w = 7 ∨ w = 8 ∨ w = 9 ∨ w = 10 := by omega
  rcases this with rfl | rfl | rfl | rfl | rfl | rfl | rfl | rfl | rfl | rfl | rfl
  · show inR (s 38 3); omega
  · show inR (s 38 6); omega
  · show inR (s 38 9); omega
  · show inR (syd s)
    have := sm_01 (f := fun i => if s 41 i < 8 then 1 else 0) (fun i => by split; exact Or.inr rfl; exact Or.inl rfl) (s 38 9).toNat
    unfold syd
    omega
  · show inR (if s 38 7 = -1 then (0 : Int) else 10 * s 38 7 + s 38 8)
    split <;> omega
  · show inR (bc (s 38 5))
    rw [ht.1]
    exact inR_on16 _
  · show inR (hba s (s 38 3).toNat)
    have go : ∀ n : Nat, inR (hba s n) := fun n => by
      cases n with
      | zero => show inR (if s 38 3 = 0 then (0 : Int) else 15); split <;> omega
      | succ n => exact inR_iAnd _ _
    exact go _
  · show inR (bsh s)
    have := sm_01 (f := fun i => if s (44 + 4 * i) 1 = 1 ∨ ma (s (44 + 4 * i) 1) = 1 then 1 else 0) (fun i => by split; exact Or.inr rfl; exact Or.inl rfl) (s 38 3).toNat
    unfold bsh
    omega
  · show inR (thr1 s)
    have := sm_01 (f := fun r => if s 2 r = -1 then 0 else 1) (fun i => by split; exact Or.inl rfl; exact Or.inr rfl) 6
    unfold thr1
    omega
  · show inR (thr10 s)
    have := sm_01 (f := fun r => if s 11 r = -1 then 0 else 1) (fun i => by split; exact Or.inl rfl; exact Or.inr rfl) 4
    unfold thr10
    omega
  · show inR (thr17 s)
    have := sm_01 (f := fun r => if s 18 r = -1 then 0 else 1) (fun i => by split; exact Or.inl rfl; exact Or.inr rfl) 3
    unfold thr17
    omega
theorem clv_r (h : J s) {k : Int} (k0 : 0 ≤ k) (k4 : k < 4) : inR (clo (s 38 5) (iShl 1 k)) := by
  have cr := clo_r (u := iShl 1 k) h.v.2.2 (shl4_r k0 k4)
  obtain ⟨c0, c1⟩ := cr
  omega
theorem digest_C (h : J s) (kk : P (some (vJ (dg6 s))) s) : Cl X (d + 13) 155 [vR 0] s P := by
  have h7 := J_7 h
  have hv := h.v
  obtain ⟨r0, r1, r2, r3, r4, r5, r6⟩ := hv.1
  have hk := h.2.2.2.2.1.2
  have s5 : ∀ z4, Rn X (d + 13) 155 117 [some (vR 0), some (vJ (dg3 s)), none, some (vI 0), z4] [] s P := by
    intro z4
    have loop : ∀ (m : Nat) (k : Int), 0 ≤ k → k + m = 3 → Rn X (d + 13) 155 117 [some (vR 0), some (vJ (hr (s 18) (dg3 s) k.toNat)), none, some (vI k), z4] [] s P := by
      intro m
      induction m with
      | zero =>
        intro k k0 km
        have : k = 3 := by omega
        subst this
        apply t_X5_digest_117 k0 <;> intros
        all_goals first | exact kk | (next g r a b => have := Jr_b (r := r) h a b; omega) | (next g r a b => have := Jt_b (t := r) h a b; omega) | (next g r j a b j0 j1 => exact ((h.1.2 r a b).2.2.2 j j0 j1).1) | (next g r j a b j0 j1 => have := (h.2.1.2 r a b).2.2.2 j j0 j1; omega) | omega
      | succ m ih =>
        intro k k0 km
        have hx := ih (k + 1) (by omega) (by omega)
        rw [hr_up k0] at hx
        have := hk k k0 (by omega)
        have q1 := this.1
        have q2 := this.2.1
        apply t_X5_digest_117 k0 <;> intros
        all_goals first | exact hx | omega
    exact loop 3 0 (by omega) (by omega)
  have s4 : ∀ (m : Nat) (k : Int) (z4 : Option Value), 0 ≤ k → k + m = s 38 3 → Rn X (d + 13) 155 64 [some (vR 0), some (vJ (hr (gv s) (dg2 s) (7 * k).toNat)), none, some (vI k), z4] [] s P := by
    intro m
    induction m with
    | zero =>
      intro k z4 k0 km
      have : k = s 38 3 := by omega
      have hx := s5 z4
      unfold dg3 at hx
      rw [← this] at hx
      apply t_X5_digest_64 k0 <;> intros
      all_goals first | exact hx | omega
    | succ m ih =>
      intro k z4 k0 km
      have g := r5 k k0 (by omega)
      have gh := g.h
      obtain ⟨g1, g2, g3, g4⟩ := g
      have inner : ∀ (m2 : Nat) (w : Int), 0 ≤ w → w + m2 = 7 → Rn X (d + 13) 155 78 [some (vR 0), some (vJ (hr (gv s) (dg2 s) (7 * k + w).toNat)), none, some (vI k), some (vI w)] [] s P := by
        intro m2
        induction m2 with
        | zero =>
          intro w w0 wm
          have : w = 7 := by omega
          subst this
          have hx := ih (k + 1) (some (vI 7)) (by omega) (by omega)
          rw [show 7 * (k + 1) = 7 * k + 7 by omega] at hx
          apply t_X5_digest_78 k0 <;> intros
          all_goals first | exact hx | omega
        | succ m2 ih2 =>
          intro w w0 wm
          have hx := ih2 (w + 1) (by omega) (by omega)
          rw [show 7 * k + (w + 1) = 7 * k + w + 1 by omega, hr_up (by omega)] at hx
          have egv : gv s (7 * k + w) = tv s k w := by
            unfold gv
            rw [show (7 * k + w) / 7 = k by omega, show (7 * k + w) % 7 = w by omega]
          rw [egv] at hx
          have fin : ∀ v, v = tv s k w → Rn X (d + 13) 155 78 [some (vR 0), some (vJ (31 * hr (gv s) (dg2 s) (7 * k + w).toNat + v)), none, some (vI k), some (vI (w + 1))] [] s P := fun v hv => by rw [hv]; exact hx
          have fin0 : 0 = tv s k w → Rn X (d + 13) 155 78 [some (vR 0), some (vJ (31 * hr (gv s) (dg2 s) (7 * k + w).toNat)), none, some (vI k), some (vI (w + 1))] [] s P := fun hv => by have := fin 0 hv; rw [Int.add_zero] at this; exact this
          have e0 : w = 0 → tv s k w = s (44 + 4 * k) 1 := fun hw => by subst hw; rfl
          have e5 : w = 5 → tv s k w = s (44 + 4 * k) 2 := fun hw => by subst hw; rfl
          have e6 : w = 6 → tv s k w = if k = s 38 7 then 1 else if k = s 38 8 then 2 else 0 := fun hw => by subst hw; rfl
          have eo : ¬ w = 0 → ¬ w = 5 → ¬ w = 6 → tv s k w = s (44 + 4 * k + 1) (w - 1) := fun h0 h5 h6 => by unfold tv; rw [if_neg h0, if_neg h5, if_neg h6]
          have g4w : ¬ w = 0 → ¬ w = 5 → ¬ w = 6 → inR (s (44 + 4 * k + 1) (w - 1)) := fun h0 h5 h6 => by have := g4 (w - 1) (by omega) (by omega); omega
          have i7 : inR (s 38 7) := by omega
          have i8 : inR (s 38 8) := by
            obtain ⟨q1, q2, q3, q4, q5, q6, q7, q8, q9, q10, q11, q12⟩ := hv.2.1
            omega
          apply t_X5_digest_78 k0 <;> intros
          all_goals first | (exact fin _ (e0 (by assumption)).symm) | (exact fin _ (e5 (by assumption)).symm) | (refine fin _ ?_; rw [eo (by omega) (by omega) (by omega)]; done) | (refine fin0 ?_; rw [e6 (by assumption), if_neg (by assumption), if_neg (by assumption)]; done) | (refine fin _ ?_; rw [e6 (by assumption), if_neg (by assumption), if_pos (by assumption)]; done) | (refine fin _ ?_; rw [e6 (by assumption), if_pos (by assumption)]; done) | exact i7 | exact i8 | (exact g4w (by omega) (by omega) (by omega)) | (clear e0 e5 e6 eo g4w; omega)
      have hx := inner 7 0 (by omega) (by omega)
      rw [Int.add_zero] at hx
      apply t_X5_digest_64 k0 <;> intros
      all_goals first | exact hx | omega
  have s3 : ∀ (m : Nat) (k : Int), 0 ≤ k → k + m = 4 → Rn X (d + 13) 155 33 [some (vR 0), some (vJ (hr (clv s) (dg1 s) k.toNat)), none, some (vI k), none] [] s P := by
    intro m
    induction m with
    | zero =>
      intro k k0 km
      have : k = 4 := by omega
      subst this
      have hx := s4 (s 38 3).toNat 0 none (by omega) (by omega)
      apply t_X5_digest_33 k0 <;> intros
      all_goals first | exact hx | omega
    | succ m ih =>
      intro k k0 km
      have hx := ih (k + 1) (by omega) (by omega)
      rw [hr_up k0] at hx
      have cr := clv_r h k0 (by omega)
      apply t_X5_digest_33 k0 <;> intros
      all_goals first | exact hx | exact cr | omega
  have s2 : ∀ (m : Nat) (k : Int), 0 ≤ k → k + m = 11 → Rn X (d + 13) 155 6 [some (vR 0), some (vJ (hr (cnv s) 17 k.toNat)), none, some (vI k), none] [] s P := by
    intro m
    induction m with
    | zero =>
      intro k k0 km
      have : k = 11 := by omega
      subst this
      have hx := s3 4 0 (by omega) (by omega)
      apply t_X5_digest_6 k0 <;> intros
      all_goals first | exact hx | omega
    | succ m ih =>
      intro k k0 km
      have hx := ih (k + 1) (by omega) (by omega)
      rw [hr_up k0] at hx
      have cr := cnv_r h k0 (by omega)
      apply t_X5_digest_6 k0 <;> intros
      all_goals first | exact hx | exact h | exact cr | omega
  exact t_X5_digest (s2 11 0 (by omega) (by omega))
end OPQ
