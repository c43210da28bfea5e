/-! the law's loop: what is said of each guest, of both, what is done -/
theorem hA_cong {s t : m_St} {k : Int} (e : ∀ j, t 78 j = s 78 j) : hA t k = hA s k := by
  unfold hA
  rw [e]
  exact hset_cong fun c _ _ => e _
section LOOP
variable {X : m_X} {d : Nat} {P : Option Value → m_St → Prop} {w m n : Int}
theorem K_09 {s : m_St} {l e f a x : Int} (h : K s w m n l e f a) : K (m_upd s 0 9 x) w m n l e f a := K_cong (fun c j hc => upd_nc (by unfold uK at hc; omega)) h
theorem lw_827 (hU : 4 ≤ X.2) {l e f a t u y p q : Int} (q0 : 0 ≤ q) (q1 : q < n) (next : ∀ (s : m_St) (r : Int), K s w m n l e f a → Rn X (d + 9) 170 725 [some (vR 1000), some (vR 0), some (vI w), some (vI m), some (vI n), some (vR 77), some (vR 78), some (vI 1), some (vR 79), some (vR 80), some (vI l), some (vI e), some (vI f), some (vI a), some (vI t), some (vI u), some (vI y), some (vI p), some (vI (q + 1)), some (vI r)] [] s P) : ∀ (k : Nat) (r : Int) (s : m_St), K s w m n l e f a → 0 ≤ r → r + k = 4 → Rn X (d + 9) 170 827 [some (vR 1000), some (vR 0), some (vI w), some (vI m), some (vI n), some (vR 77), some (vR 78), some (vI 1), some (vR 79), some (vR 80), some (vI l), some (vI e), some (vI f), some (vI a), some (vI t), some (vI u), some (vI y), some (vI p), some (vI q), some (vI r)] [] s P := by
  intro k
  induction k with
  | zero =>
    intro r s h r0 rk
    apply t_L_law_827 hU <;> intros
    all_goals first | omega | exact next _ _ h
  | succ k ih =>
    intro r s h r0 rk
    have hh := h.2.1.hok
    have n6 := h.2.1.2.1
    have hg := h.2.1.2.2.2.2.2.2.2.2.2.2.2.2.2.1
    have hgr := (hg q q0 q1).2.2 r r0 (by omega)
    apply t_L_law_827 hU <;> intros
    all_goals first | omega | skip
    refine c_guestw (d := d + 5) h.1 hh q0 (by rw [hL_0]; exact q1) r0 (by omega) ?_
    have e1 : hL s n l w a (9 + 5 * q + r) = s 78 (5 * q + 1 + r) := by rw [hL_8 (by omega), show 9 + 5 * q + r - 8 = 5 * q + 1 + r by omega]
    rw [e1]
    have h1 : K (m_upd s 0 9 (s 78 (5 * q + 1 + r))) w m n l e f a := K_09 h
    have e2 : m_upd s 0 9 (s 78 (5 * q + 1 + r)) 0 9 = s 78 (5 * q + 1 + r) := upd_eq
    have e3 : m_upd s 0 9 (s 78 (5 * q + 1 + r)) 78 (5 * q + 1 + r) = s 78 (5 * q + 1 + r) := upd_nc (by decide)
    apply t_L_law_848 hU <;> intros
    all_goals first | omega | skip
    refine c_asked ?_
    apply t_L_law_856 hU <;> intros
    all_goals first | omega | skip
    exact ih (r + 1) _ h1 (by omega) (by omega)
theorem lw_725 (hU : 4 ≤ X.2) {l e f a t u y p : Int} (next : ∀ (s : m_St) (z15 z16 z17 z18 z19 : Option Value), K s w m n l e f a → Rn X (d + 9) 170 133 [some (vR 1000), some (vR 0), some (vI w), some (vI m), some (vI n), some (vR 77), some (vR 78), some (vI 1), some (vR 79), some (vR 80), some (vI l), some (vI e), some (vI f), some (vI a), some (vI (t + 1)), z15, z16, z17, z18, z19] [] s P) : ∀ (k : Nat) (q : Int) (z19 : Option Value) (s : m_St), K s w m n l e f a → 0 ≤ q → q + k = n → Rn X (d + 9) 170 725 [some (vR 1000), some (vR 0), some (vI w), some (vI m), some (vI n), some (vR 77), some (vR 78), some (vI 1), some (vR 79), some (vR 80), some (vI l), some (vI e), some (vI f), some (vI a), some (vI t), some (vI u), some (vI y), some (vI p), some (vI q), z19] [] s P := by
  intro k
  induction k with
  | zero =>
    intro q z19 s h q0 qk
    have n6 := h.2.1.2.1
    apply t_L_law_725 hU <;> intros
    all_goals first | omega | exact next _ _ _ _ _ _ h
  | succ k ih =>
    intro q z19 s h q0 qk
    have hh := h.2.1.hok
    have n6 := h.2.1.2.1
    have q1 : q < n := by omega
    apply t_L_law_725 hU <;> intros
    all_goals first | omega | skip
    refine c_guest5 (d := d + 5) h.1 hh q0 (by rw [hL_0]; exact q1) ?_
    rw [hL_hld q0]
    have h1 : K (m_upd s 0 9 (hA s q)) w m n l e f a := K_09 h
    have e1 : m_upd s 0 9 (hA s q) 0 9 = hA s q := upd_eq
    have e2 : hA (m_upd s 0 9 (hA s q)) q = hA s q := hA_cong fun j => upd_nc (by decide)
    have e3 := inR_hA s q
    have hg1 := h1.2.1.2.2.2.2.2.2.2.2.2.2.2.2.2.1
    apply t_L_law_744 hU <;> intros
    all_goals first | omega | skip
    refine c_asked ?_
    generalize m_upd s 0 9 (hA s q) = s1 at h1 e1 e2 hg1 ⊢
    apply t_L_law_752 hU <;> intros
    all_goals first | exact hg1 | omega | skip
    refine c_guest6 (d := d + 5) h1.1 h1.2.1.hok q0 (by rw [hL_0]; exact q1) ?_
    have e5 : hL s1 n l w a 5 = if a = 0 then 0 else s1 79 0 + 1 := rfl
    have e6 : hL s1 n l w a 6 = if a = 0 then 0 else s1 79 1 + 1 := rfl
    obtain ⟨-, -, -, -, -, -, a01, u0, u1, v0, v1, -⟩ := h1.2.1
    generalize hV : (if hL s1 n l w a 5 = q + 1 then (1 : Int) else if hL s1 n l w a 6 = q + 1 then 2 else 0) = V
    have h2 : K (m_upd s1 0 9 V) w m n l e f a := K_09 h1
    have e7 : m_upd s1 0 9 V 0 9 = V := upd_eq
    have e8 : m_upd s1 0 9 V 79 0 = s1 79 0 := upd_nc (by decide)
    have e9 : m_upd s1 0 9 V 79 1 = s1 79 1 := upd_nc (by decide)
    apply t_L_law_770 hU <;> intros
    all_goals first | omega | skip
    refine c_asked ?_
    generalize m_upd s1 0 9 V = s2 at h2 e7 e8 e9 ⊢
    have nx : Rn X (d + 9) 170 824 [some (vR 1000), some (vR 0), some (vI w), some (vI m), some (vI n), some (vR 77), some (vR 78), some (vI 1), some (vR 79), some (vR 80), some (vI l), some (vI e), some (vI f), some (vI a), some (vI t), some (vI u), some (vI y), some (vI p), some (vI q), z19] [] s2 P := by
      apply t_L_law_824 hU <;> intros
      exact lw_827 hU q0 q1 (fun s r h => ih (q + 1) _ s h (by omega) (by omega)) 4 0 s2 h2 (by omega) (by omega)
    apply t_L_law_778 hU <;> intros
    all_goals first | omega | exact nx
theorem lw_642 (hU : 4 ≤ X.2) {l e f a t u y p : Int} {s : m_St} {z18 z19 : Option Value} (h : K s w m n l e f a) (e4 : e ≤ 40) (hp : p = if a = 0 then -4 else iAnd (hA s (s 79 0)) (hA s (s 79 1))) (next : ∀ (s : m_St) (z15 z16 z17 z18 z19 : Option Value), K s w m n l e f a → Rn X (d + 9) 170 133 [some (vR 1000), some (vR 0), some (vI w), some (vI m), some (vI n), some (vR 77), some (vR 78), some (vI 1), some (vR 79), some (vR 80), some (vI l), some (vI e), some (vI f), some (vI a), some (vI (t + 1)), z15, z16, z17, z18, z19] [] s P) : Rn X (d + 9) 170 642 [some (vR 1000), some (vR 0), some (vI w), some (vI m), some (vI n), some (vR 77), some (vR 78), some (vI 1), some (vR 79), some (vR 80), some (vI l), some (vI e), some (vI f), some (vI a), some (vI t), some (vI u), some (vI y), some (vI p), z18, z19] [] s P := by
  have last : ∀ (s : m_St) (z19 : Option Value), K s w m n l e f a → Rn X (d + 9) 170 725 [some (vR 1000), some (vR 0), some (vI w), some (vI m), some (vI n), some (vR 77), some (vR 78), some (vI 1), some (vR 79), some (vR 80), some (vI l), some (vI e), some (vI f), some (vI a), some (vI t), some (vI u), some (vI y), some (vI p), some (vI 0), z19] [] s P := fun s z19 h => lw_725 hU next n.toNat 0 z19 s h (by omega) (by have := h.2.1.1; omega)
  have rp : inR p := by
    have := inR_iAnd (hA s (s 79 0)) (hA s (s 79 1))
    rw [hp]
    split
    · decide
    · exact this
  -- behind both
  have cnt : ∀ s : m_St, K s w m n l e f a → Rn X (d + 9) 170 651 [some (vR 1000), some (vR 0), some (vI w), some (vI m), some (vI n), some (vR 77), some (vR 78), some (vI 1), some (vR 79), some (vR 80), some (vI l), some (vI e), some (vI f), some (vI a), some (vI t), some (vI u), some (vI y), some (vI p), z18, z19] [vI p] s P := by
    intro s h
    have hc := h.2.1
    obtain ⟨n2, n6, w0, w4, l0, lw, a01, u0, u1, v0, v1, -⟩ := hc
    obtain ⟨d1, d2, d3, d4, d5, d6⟩ := h.2.2
    obtain ⟨r3, r6, r4, r7, r8, -⟩ := h.1
    rw [hL_1] at r6
    rw [hL_5] at r7
    rw [hL_6] at r8
    apply t_L_law_651 hU <;> intros
    all_goals first | exact rp | omega | skip
    refine c_count1 (d := d + 4) ?_
    rw [r6]
    apply t_L_law_661 hU <;> intros
    all_goals first | omega | skip
    refine c_count2 (d := d + 4) ?_
    rw [d1]
    apply t_L_law_671 hU <;> intros
    all_goals first | omega | skip
    refine c_count3 (d := d + 4) (by omega) (by omega) (fun i i0 i1 => d6 i i0 (by omega)) ?_
    rw [d3]
    apply t_L_law_681 hU <;> intros
    all_goals first | omega | skip
    refine c_count4 (d := d + 4) (by split at r7 <;> omega) (fun hz => ?_) (fun hz => ?_)
    · apply t_L_law_691 hU <;> intros
      all_goals first | exact last _ _ h | (split at r7 <;> omega)
    · apply t_L_law_691 hU <;> intros
      all_goals first | exact last _ _ h | (split at r7 <;> split at r8 <;> omega)
  have hh := h.2.1.hok
  apply t_L_law_642 hU <;> intros
  all_goals first | omega | skip
  refine c_both (d := d + 2) h.1 hh (fun h5 => ?_) (fun h5 t ht => ?_)
  · rw [hL_5] at h5
    have u0 := h.2.1.2.2.2.2.2.2.2.1
    have ea : a = 0 := by split at h5 <;> omega
    rw [if_pos ea] at hp
    rw [← hp]
    exact cnt s h
  · rw [hL_5] at h5
    have ea : ¬ a = 0 := fun q => h5 (if_pos q)
    have u0 := h.2.1.2.2.2.2.2.2.2.1
    have v0 := h.2.1.2.2.2.2.2.2.2.2.2.1
    rw [if_neg ea] at hp
    have x5 : hL s n l w a 5 - 1 = s 79 0 := by rw [hL_5, if_neg ea]; omega
    have x6 : hL s n l w a 6 - 1 = s 79 1 := by rw [hL_6, if_neg ea]; omega
    rw [x5, x6, hL_hld u0, hL_hld v0, ← hp]
    exact cnt t (K_cong ht h)
theorem lw_611 (hU : 4 ≤ X.2) {l e f a t u y p : Int} {s : m_St} {z18 z19 : Option Value} (h : K s w m n l e f a) (e4 : e ≤ 40) (next : ∀ (s : m_St) (z15 z16 z17 z18 z19 : Option Value), K s w m n l e f a → Rn X (d + 9) 170 133 [some (vR 1000), some (vR 0), some (vI w), some (vI m), some (vI n), some (vR 77), some (vR 78), some (vI 1), some (vR 79), some (vR 80), some (vI l), some (vI e), some (vI f), some (vI a), some (vI (t + 1)), z15, z16, z17, z18, z19] [] s P) : Rn X (d + 9) 170 611 [some (vR 1000), some (vR 0), some (vI w), some (vI m), some (vI n), some (vR 77), some (vR 78), some (vI 1), some (vR 79), some (vR 80), some (vI l), some (vI e), some (vI f), some (vI a), some (vI t), some (vI u), some (vI y), some (vI p), z18, z19] [] s P := by
  have hc := h.2.1
  obtain ⟨n2, n6, w0, w4, l0, lw, a01, u0, u1, v0, v1, m0, m5, g, -⟩ := hc
  apply t_L_law_611 hU <;> intros
  all_goals first | exact g | omega | skip
  · next ha => exact lw_642 hU h e4 (by rw [if_pos ha]) next
  · next ha => exact lw_642 hU h e4 (by rw [if_neg ha]) next
theorem lw_349 (hU : 4 ≤ X.2) {l e f a a' t u y p q r : Int} {s : m_St} (h : K s w m n l e f a') (ha : a' = if a = 0 ∧ r = 0 then 0 else 1) (ra : inR a) (rr : inR r) (e4 : e ≤ 40) (next : ∀ (s : m_St) (z15 z16 z17 z18 z19 : Option Value), K s w m n l e f a' → Rn X (d + 9) 170 133 [some (vR 1000), some (vR 0), some (vI w), some (vI m), some (vI n), some (vR 77), some (vR 78), some (vI 1), some (vR 79), some (vR 80), some (vI l), some (vI e), some (vI f), some (vI (a')), some (vI (t + 1)), z15, z16, z17, z18, z19] [] s P) : Rn X (d + 9) 170 349 [some (vR 1000), some (vR 0), some (vI w), some (vI m), some (vI n), some (vR 77), some (vR 78), some (vI 1), some (vR 79), some (vR 80), some (vI l), some (vI e), some (vI f), some (vI a), some (vI t), some (vI u), some (vI y), some (vI p), some (vI q), some (vI r)] [] s P := by
  apply t_L_law_349 hU <;> intros
  all_goals first | exact ra | exact rr | skip
  · next h1 =>
    rw [if_neg (fun z => h1 z.1)] at ha
    subst ha
    exact lw_611 hU h e4 next
  · next h1 h2 =>
    rw [if_pos ⟨h1, h2⟩] at ha
    subst ha
    exact lw_611 hU h e4 next
  · next h1 h2 =>
    rw [if_neg (fun z => h2 z.2)] at ha
    subst ha
    exact lw_611 hU h e4 next
theorem lw_184 (hU : 4 ≤ X.2) {l e f a t u y : Int} {s : m_St} {z17 z18 z19 : Option Value} (h : K s w m n l e f a) (t0 : 0 ≤ t) (t36 : t < 36) (et : e ≤ t) (next : ∀ (s : m_St) (l e f a : Int) (z15 z16 z17 z18 z19 : Option Value), K s w m n l e f a → e ≤ t + 1 → Rn X (d + 9) 170 133 [some (vR 1000), some (vR 0), some (vI w), some (vI m), some (vI n), some (vR 77), some (vR 78), some (vI 1), some (vR 79), some (vR 80), some (vI l), some (vI e), some (vI f), some (vI a), some (vI (t + 1)), z15, z16, z17, z18, z19] [] s P) : Rn X (d + 9) 170 184 [some (vR 1000), some (vR 0), some (vI w), some (vI m), some (vI n), some (vR 77), some (vR 78), some (vI 1), some (vR 79), some (vR 80), some (vI l), some (vI e), some (vI f), some (vI a), some (vI t), some (vI u), some (vI y), z17, z18, z19] [] s P := by
  have hc := h.2.1
  obtain ⟨n2, n6, w0, w4, l0, lw, a01, u0, u1, v0, v1, m0, m5, g, -⟩ := hc
  have hh := h.2.1.hok
  have d1 := h.2.2.1
  have d2 := h.2.2.2.1
  have no : ∀ p q : Int, 0 ≤ p → p < n → 0 ≤ q → q < n → (p = q ∨ (¬ a = 0 ∧ s 79 0 = p ∧ s 79 1 = q)) → Rn X (d + 9) 170 244 [some (vR 1000), some (vR 0), some (vI w), some (vI m), some (vI n), some (vR 77), some (vR 78), some (vI 1), some (vR 79), some (vR 80), some (vI l), some (vI e), some (vI f), some (vI a), some (vI t), some (vI u), some (vI y), some (vI p), some (vI q), some (vI 0)] [] s P := by
    intro p q p0 p1 q0 q1 hpq
    have fin : ∀ rv : Int, inR rv → (p = q → rv = -1) → (¬ p = q → rv = -4) → Rn X (d + 9) 170 303 [some (vR 1000), some (vR 0), some (vI w), some (vI m), some (vI n), some (vR 77), some (vR 78), some (vI 1), some (vR 79), some (vR 80), some (vI l), some (vI e), some (vI f), some (vI a), some (vI t), some (vI u), some (vI y), some (vI p), some (vI q), some (vI 0)] [vI rv] s P := by
      intro rv rrv h1 h2
      have nx : Rn X (d + 9) 170 349 [some (vR 1000), some (vR 0), some (vI w), some (vI m), some (vI n), some (vR 77), some (vR 78), some (vI 1), some (vR 79), some (vR 80), some (vI l), some (vI e), some (vI f), some (vI a), some (vI t), some (vI u), some (vI y), some (vI p), some (vI q), some (vI 0)] [] s P := lw_349 hU h (by rcases a01 with q | q <;> (rw [q]; rfl)) (by omega) (by decide) (by omega) (fun s _ _ _ _ _ h => next s _ _ _ _ _ _ _ _ _ h (by omega))
      apply t_L_law_303 hU <;> intros
      all_goals first | omega | exact nx
    apply t_L_law_244 hU <;> intros
    all_goals first | omega | skip
    rw [upd_self, upd_self]
    refine c_send (d := d + 3) h.1 hh (by omega) (by omega) p0 (by rw [hL_0]; exact p1) q0 (by rw [hL_0]; exact q1) (fun hq => ?_) (fun hq x5 x6 => ?_) (fun hq hx => ?_)
    · exact fin (-1) (by decide) (fun _ => rfl) (fun z => absurd hq z)
    · exact fin (-4) (by decide) (fun z => absurd z hq) (fun _ => rfl)
    · exfalso
      rcases hpq with hpq | ⟨g1, g2, g3⟩
      · exact hq hpq
      · refine hx ?_
        rw [hL_5, hL_6, if_neg g1, if_neg g1, g2, g3]
        exact ⟨rfl, rfl⟩
  have yes : ∀ p q : Int, 0 ≤ p → p < n → 0 ≤ q → q < n → ¬ p = q → ¬ (¬ a = 0 ∧ s 79 0 = p ∧ s 79 1 = q) → Rn X (d + 9) 170 244 [some (vR 1000), some (vR 0), some (vI w), some (vI m), some (vI n), some (vR 77), some (vR 78), some (vI 1), some (vR 79), some (vR 80), some (vI l), some (vI e), some (vI f), some (vI a), some (vI t), some (vI u), some (vI y), some (vI p), some (vI q), some (vI 1)] [] s P := by
    intro p q p0 p1 q0 q1 hpq hno
    obtain ⟨k1, k2, k3, k4, k5, k6, k7⟩ := K_send h p0 p1 q0 q1
    apply t_L_law_244 hU <;> intros
    all_goals first | omega | skip
    refine c_send (d := d + 3) k1 k2 (by omega) (by omega) p0 (by rw [hL_0]; exact p1) q0 (by rw [hL_0]; exact q1) (fun hq => absurd hq hpq) (fun hq x5 x6 => ?_) (fun hq hx => ?_)
    · exfalso
      rw [hL_5] at x5
      rw [hL_6] at x6
      split at x5
      · omega
      · next ha =>
        rw [if_neg ha] at x6
        exact hno ⟨ha, by omega, by omega⟩
    · rw [hL_hld p0, hL_hld q0, ← hA_cong k5 (k := p), ← hA_cong k5 (k := q)]
      have g1 := k4.2.1.2.2.2.2.2.2.2.2.2.2.2.2.2.1
      generalize acs (m_upd (m_upd s 79 0 p) 79 1 q) (9 + 6 * p + q) = s2 at k4 g1 ⊢
      have nx : Rn X (d + 9) 170 349 [some (vR 1000), some (vR 0), some (vI w), some (vI m), some (vI n), some (vR 77), some (vR 78), some (vI 1), some (vR 79), some (vR 80), some (vI l), some (vI (e + 1)), some (vI f), some (vI a), some (vI t), some (vI u), some (vI y), some (vI p), some (vI q), some (vI 1)] [] s2 P := lw_349 hU k4 (by rw [if_neg (fun z => by omega)]) (by omega) (by decide) (by omega) (fun s _ _ _ _ _ h => next s _ _ _ _ _ _ _ _ _ h (by omega))
      have ri := inR_iAnd (hA s2 p) (hA s2 q)
      apply t_L_law_303 hU <;> intros
      all_goals first | exact g1 | omega | exact nx
  apply t_L_law_184 hU <;> intros
  all_goals first | omega | (refine no _ _ ?_ ?_ ?_ ?_ ?_ <;> omega) | (refine yes _ _ ?_ ?_ ?_ ?_ ?_ ?_ <;> omega)
theorem lw_449 (hU : 4 ≤ X.2) {l e f t u y : Int} {s : m_St} (h : K s w m n l e f 1) (t0 : 0 ≤ t) (t36 : t < 36) (et : e ≤ t) (next : ∀ (s : m_St) (l e f a : Int) (z15 z16 z17 z18 z19 : Option Value), K s w m n l e f a → e ≤ t + 1 → Rn X (d + 9) 170 133 [some (vR 1000), some (vR 0), some (vI w), some (vI m), some (vI n), some (vR 77), some (vR 78), some (vI 1), some (vR 79), some (vR 80), some (vI l), some (vI e), some (vI f), some (vI a), some (vI (t + 1)), z15, z16, z17, z18, z19] [] s P) : ∀ (k : Nat) (q p : Int) (z19 : Option Value), 0 ≤ q → q + k = 8 → 0 ≤ p → p < 8 → Rn X (d + 9) 170 449 [some (vR 1000), some (vR 0), some (vI w), some (vI m), some (vI n), some (vR 77), some (vR 78), some (vI 1), some (vR 79), some (vR 80), some (vI l), some (vI e), some (vI f), some (vI 1), some (vI t), some (vI u), some (vI y), some (vI p), some (vI q), z19] [] s P := by
  have hc := h.2.1
  obtain ⟨n2, n6, w0, w4, l0, lw, a01, u0, u1, v0, v1, m0, m5, g, pp, tr_⟩ := hc
  have hh := h.2.1.hok
  have d1 := h.2.2.1
  have d2 := h.2.2.2.1
  have h5 : ¬ hL s n l w 1 5 = 0 := by rw [hL_51]; omega
  have hpr := pL_r pp
  have a500 : ∀ (p q : Int) (z19 : Option Value), 0 ≤ p → p < 8 → Rn X (d + 9) 170 500 [some (vR 1000), some (vR 0), some (vI w), some (vI m), some (vI n), some (vR 77), some (vR 78), some (vI 1), some (vR 79), some (vR 80), some (vI l), some (vI e), some (vI f), some (vI 1), some (vI t), some (vI u), some (vI y), some (vI p), some (vI q), z19] [] s P := by
    intro p q z19 p0 p8
    have cq := cn_eq h p0 p8
    have cb : cnA s p = 0 ∨ cnA s p = 1 := by
      unfold cnA
      split
      · exact Or.inr rfl
      · exact Or.inl rfl
    -- nothing is said
    have no : (cnA s p = 0 ∨ l ≤ 0) → Rn X (d + 9) 170 528 [some (vR 1000), some (vR 0), some (vI w), some (vI m), some (vI n), some (vR 77), some (vR 78), some (vI 1), some (vR 79), some (vR 80), some (vI l), some (vI e), some (vI f), some (vI 1), some (vI t), some (vI u), some (vI y), some (vI p), some (vI (cnA s p)), some (vI 0)] [] s P := by
      intro hno
      have nx : Rn X (d + 9) 170 611 [some (vR 1000), some (vR 0), some (vI w), some (vI m), some (vI n), some (vR 77), some (vR 78), some (vI 1), some (vR 79), some (vR 80), some (vI l), some (vI e), some (vI f), some (vI 1), some (vI t), some (vI u), some (vI y), some (vI p), some (vI (cnA s p)), some (vI 0)] [] s P := lw_611 hU h (by omega) (fun s _ _ _ _ _ h => next s _ _ _ _ _ _ _ _ _ h (by omega))
      apply t_L_law_528 hU <;> intros
      all_goals first | omega | skip
      apply t_L_law_554 hU <;> intros
      refine c_say (d := d + 3) h.1 hh h5 (by omega) (by omega) p0 p8 (fun hz => ?_) (fun hz hw => ?_) (fun hz hw => ?_)
      · have hz2 := cq.mp hz
        apply t_L_law_560 hU <;> intros
        all_goals first | omega | exact nx
      · have hz2 : ¬ cnA s p = 0 := fun z => hz (cq.mpr z)
        apply t_L_law_560 hU <;> intros
        all_goals first | omega | exact nx
      · exfalso
        rw [hL_1] at hw
        rcases hno with q | q
        · exact hz (cq.mpr q)
        · omega
    have yes : ¬ cnA s p = 0 → 0 < l → Rn X (d + 9) 170 528 [some (vR 1000), some (vR 0), some (vI w), some (vI m), some (vI n), some (vR 77), some (vR 78), some (vI 1), some (vR 79), some (vR 80), some (vI l), some (vI e), some (vI f), some (vI 1), some (vI t), some (vI u), some (vI y), some (vI p), some (vI (cnA s p)), some (vI 1)] [] s P := by
      intro hz l1
      obtain ⟨k1, k2, k3, k4, k5⟩ := K_say h p0 p8 l1
      have e5 : sgL s p 38 5 = s 38 5 := upd_nc (by decide)
      have nx : Rn X (d + 9) 170 611 [some (vR 1000), some (vR 0), some (vI w), some (vI m), some (vI n), some (vR 77), some (vR 78), some (vI 1), some (vR 79), some (vR 80), some (vI (l - 1)), some (vI (e + 1)), some (vI (f + 1)), some (vI 1), some (vI t), some (vI u), some (vI y), some (vI p), some (vI (cnA s p)), some (vI 1)] [] (acs (sgL s p) p) P := lw_611 hU k4 (by omega) (fun s _ _ _ _ _ h => next s _ _ _ _ _ _ _ _ _ h (by omega))
      apply t_L_law_528 hU <;> intros
      all_goals first | exact tr_ | exact g | (exact hpr _ (by assumption) (by assumption)) | omega | skip
      apply t_L_law_554 hU <;> intros
      rw [show l + (-1) = l - 1 by omega]
      refine c_say (d := d + 3) k1 k2 h5 (by omega) (by omega) p0 p8 (fun hz2 => absurd (cq.mp hz2) hz) (fun hz2 hw => ?_) (fun hz2 hw => ?_)
      · rw [hL_1] at hw
        omega
      · rw [← k5]
        have hg := k4.2.1.2.2.2.2.2.2.2.2.2.2.2.2.2.1
        have hu : 0 ≤ acs (sgL s p) p 79 (1 - p / 4) ∧ acs (sgL s p) p 79 (1 - p / 4) < n := by
          obtain ⟨-, -, -, -, -, -, -, b0, b1, b2, b3, -⟩ := k4.2.1
          rcases (show 1 - p / 4 = 0 ∨ 1 - p / 4 = 1 by omega) with e | e
          · rw [e]; exact ⟨b0, b1⟩
          · rw [e]; exact ⟨b2, b3⟩
        have hx := (hg _ hu.1 hu.2).2.2 (p % 4) (by omega) (by omega)
        generalize acs (sgL s p) p = s2 at nx hu hx ⊢
        apply t_L_law_560 hU <;> intros
        all_goals first | omega | exact nx
    apply t_L_law_500 hU <;> intros
    all_goals first | exact g | omega | skip
    · next hz => rw [hz] at no ⊢; exact no (Or.inl rfl)
    · next hz hl => rw [show cnA s p = 1 by omega] at no ⊢; exact no (Or.inr hl)
    · next hz hl => rw [show cnA s p = 1 by omega] at yes ⊢; exact yes (by omega) hl
  intro k
  induction k with
  | zero =>
    intro q p z19 q0 qk p0 p8
    apply t_L_law_449 hU <;> intros
    all_goals first | omega | exact a500 _ _ _ p0 p8
  | succ k ih =>
    intro q p z19 q0 qk p0 p8
    apply t_L_law_449 hU <;> intros
    all_goals first | exact g | omega | exact a500 _ _ _ p0 p8 | (exact ih (q + 1) _ _ (by omega) (by omega) (by omega) (by omega))
theorem lw_133 (hU : 4 ≤ X.2) (hX : X.1.length < 2147483648) (fin : ∀ s, P (some (vI 1)) s) : ∀ (k : Nat) (t : Int) (s : m_St) (l e f a : Int) (z15 z16 z17 z18 z19 : Option Value), 0 ≤ t → t + k = 36 → K s w m n l e f a → e ≤ t → Rn X (d + 9) 170 133 [some (vR 1000), some (vR 0), some (vI w), some (vI m), some (vI n), some (vR 77), some (vR 78), some (vI 1), some (vR 79), some (vR 80), some (vI l), some (vI e), some (vI f), some (vI a), some (vI t), z15, z16, z17, z18, z19] [] s P := by
  intro k
  induction k with
  | zero =>
    intro t s l e f a z15 z16 z17 z18 z19 t0 tk h et
    apply t_L_law_133 hU <;> intros
    all_goals first | omega | exact fin _
  | succ k ih =>
    intro t s l e f a z15 z16 z17 z18 z19 t0 tk h et
    have next : ∀ (s : m_St) (l e f a : Int) (z15 z16 z17 z18 z19 : Option Value), K s w m n l e f a → e ≤ t + 1 → Rn X (d + 9) 170 133 [some (vR 1000), some (vR 0), some (vI w), some (vI m), some (vI n), some (vR 77), some (vR 78), some (vI 1), some (vR 79), some (vR 80), some (vI l), some (vI e), some (vI f), some (vI a), some (vI (t + 1)), z15, z16, z17, z18, z19] [] s P := fun s l e f a z15 z16 z17 z18 z19 h he => ih (t + 1) s l e f a z15 z16 z17 z18 z19 (by omega) (by omega) h he
    have hc := h.2.1
    obtain ⟨n2, n6, w0, w4, l0, lw, a01, u0, u1, v0, v1, m0, m5, g, pp, tr_⟩ := hc
    have hh := h.2.1.hok
    have d1 := h.2.2.1
    have d2 := h.2.2.2.1
    have h0 : ¬ hL s n l w a 0 = 0 := by rw [hL_0]; omega
    clear ih
    apply t_L_law_133 hU <;> intros
    all_goals first | omega | exact hX | (exact lw_184 hU h t0 (by omega) et next) | skip
    · have ea : a = 1 := by omega
      subst ea
      exact lw_449 hU h t0 (by omega) et next 8 0 _ _ (by omega) (by omega) (by omega) (by omega)
    · refine c_wood (d := d + 3) h.1 hh h0 (by omega) (by omega) (fun hz => ?_) (fun hz => ?_)
      · rw [hL_1, hL_2] at hz
        have el : l = w := hz
        have h' := h
        rw [el] at h'
        apply t_L_law_392 hU <;> intros
        all_goals first | omega | (exact lw_611 hU h' (by omega) (fun s _ _ _ _ _ h => next s _ _ _ _ _ _ _ _ _ h (by omega)))
      · rw [hL_1, hL_2] at hz
        omega
    · refine c_wood (d := d + 3) h.1 hh h0 (by omega) (by omega) (fun hz => ?_) (fun hz => ?_)
      · rw [hL_1, hL_2] at hz
        omega
      · rw [hL_1]
        apply t_L_law_392 hU <;> intros
        all_goals first | omega | (exact lw_611 hU (K_wood h) (by omega) (fun s _ _ _ _ _ h => next s _ _ _ _ _ _ _ _ _ h (by omega)))
end LOOP
