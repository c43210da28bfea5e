/-! the law lays a text: wood, pairs and guests, blanks between them -/
def MI (s0 s : m_St) (w a : Int) (cc : Nat) (x : Int → Int) (pd gd : Int) : Prop :=
  (∀ c j, ¬ c = 13 → ¬ (c = 11 ∧ j = 0) → s c j = s0 c j) ∧ s 11 0 = 60 ∧ (∀ j, 0 ≤ j → j < 60 → -128 ≤ s 13 j ∧ s 13 j ≤ 127) ∧ (∀ j, a ≤ j → j < 60 → s 13 j = 32) ∧ RD (s 13) a cc x ∧ PX s0 x w pd gd ∧ (cc : Int) = pd + gd ∧ (pd = 0 → a ≤ 4 + 6 * gd) ∧ a ≤ 7 + 3 * pd + 6 * gd ∧ 0 ≤ pd ∧ 0 ≤ gd ∧ 3 ≤ a
/-- the law's guests, as they are drawn -/
def g9 (s : m_St) (n : Int) : Prop := ∀ i, 0 ≤ i → i < n → 0 ≤ s 78 (5 * i) ∧ s 78 (5 * i) < 6 ∧ ∀ c, 0 ≤ c → c < 4 → 0 ≤ s 78 (5 * i + 1 + c) ∧ s 78 (5 * i + 1 + c) ≤ 9
theorem MI_pair {s0 s s3 : m_St} {w a p k gd m : Int} {cc : Nat} {x : Int → Int} (h : MI s0 s w a cc x k gd) (hp : pL_ s0 m) (k1 : k < m) (m5 : m ≤ 5) (g6 : gd ≤ 6) (hap : a ≤ p) (hpa : p ≤ a + 3) (hk : ¬ k = 0 → p = a)
    (e : ∀ c j, ¬ (c = 13 ∧ p ≤ j ∧ j < p + 3) → s3 c j = s c j) (e0 : s3 13 p = 102) (e1 : s3 13 (p + 1) = 48 + s0 77 (2 * k)) (e2 : s3 13 (p + 2) = 48 + s0 77 (2 * k + 1)) : MI s0 s3 w (p + 3) (cc + 1) (xpair x p (s0 77 (2 * k)) (s0 77 (2 * k + 1))) (k + 1) gd := by
  obtain ⟨h1, h2, h3, h4, h5, h6, h7, h8, h9, h10, h11, h12⟩ := h
  obtain ⟨f0, f4, t0, t4, hne⟩ := hp k h10 k1
  refine ⟨fun c j q1 q2 => by rw [e c j (by omega)]; exact h1 c j q1 q2, by rw [e 11 0 (by omega)]; exact h2, fun j j0 j1 => ?_, fun j j0 j1 => by rw [e 13 j (by omega)]; exact h4 j (by omega) j1, ?_, PX_pair h6 h10 f0 f4 t0 t4, by omega, by omega, by omega, by omega, h11, by omega⟩
  · by_cases q : p ≤ j ∧ j < p + 3
    · rcases (show j = p ∨ j = p + 1 ∨ j = p + 2 by omega) with rfl | rfl | rfl
      · omega
      · omega
      · omega
    · rw [e 13 j (by omega)]
      exact h3 j j0 j1
  · exact RD_pair h5 (by omega) hap (by omega) (fun j j0 j1 => e 13 j (by omega)) (fun j j0 j1 => by rw [e 13 j (by omega)]; exact h4 j j0 (by omega)) f0 f4 t0 t4 hne e0 e1 e2
theorem MI_guest {s0 s s3 : m_St} {w a p k pd n : Int} {cc : Nat} {x : Int → Int} (h : MI s0 s w a cc x pd k) (hg : g9 s0 n) (k1 : k < n) (n6 : n ≤ 6) (p5 : pd ≤ 5) (hap : a ≤ p) (hpa : p ≤ a + 1)
    (e : ∀ c j, ¬ (c = 13 ∧ p ≤ j ∧ j < p + 5) → s3 c j = s c j) (e0 : s3 13 p = ltr (s0 78 (5 * k))) (e1 : ∀ c, 0 ≤ c → c < 4 → s3 13 (p + 1 + c) = 48 + s0 78 (5 * k + 1 + c)) : MI s0 s3 w (p + 5) (cc + 1) (xguest x p (s0 78 (5 * k)) (fun c => s0 78 (5 * k + 1 + c))) pd (k + 1) := by
  obtain ⟨h1, h2, h3, h4, h5, h6, h7, h8, h9, h10, h11, h12⟩ := h
  obtain ⟨b0, b6, bw⟩ := hg k h11 k1
  have hl := ltr_r (s0 78 (5 * k))
  refine ⟨fun c j q1 q2 => by rw [e c j (by omega)]; exact h1 c j q1 q2, by rw [e 11 0 (by omega)]; exact h2, fun j j0 j1 => ?_, fun j j0 j1 => by rw [e 13 j (by omega)]; exact h4 j (by omega) j1, ?_, PX_guest h6 h11, by omega, by omega, by omega, h10, by omega, by omega⟩
  · by_cases q : p ≤ j ∧ j < p + 5
    · by_cases q2 : j = p
      · subst q2; omega
      · have y1 := e1 (j - (p + 1)) (by omega) (by omega)
        have y2 := bw (j - (p + 1)) (by omega) (by omega)
        rw [show p + 1 + (j - (p + 1)) = j by omega] at y1
        omega
    · rw [e 13 j (by omega)]
      exact h3 j j0 j1
  · have hx0 := h6.1
    refine RD_guest h5 (by omega) hap (by omega) (fun j j0 j1 => e 13 j (by omega)) (fun j j0 j1 => by rw [e 13 j (by omega)]; exact h4 j j0 (by omega)) (by omega) (by omega) b0 b6 e0 (fun c c0 c1 => ⟨e1 c c0 c1, (bw c c0 c1).1, (bw c c0 c1).2⟩)
theorem filK_o {s : m_St} {c n v a j : Int} (h : ¬ (a = c ∧ 0 ≤ j ∧ j < n)) : fil s c n v a j = s a j := by unfold fil; rw [if_neg h]
theorem filK_in {s : m_St} {c n v j : Int} (h0 : 0 ≤ j) (h1 : j < n) : fil s c n v c j = v := by unfold fil; rw [if_pos ⟨rfl, h0, h1⟩]
section MAKES
variable {X : m_X} {d : Nat} {P : Option Value → m_St → Prop} {w m n b : Int} {s0 : m_St}
theorem lm_92 (hU : 2 ≤ X.2) (m0 : 0 ≤ m) (m5 : m ≤ 5) (hp : pL_ s0 m) {t gd : Int} (g6 : gd ≤ 6) (next : ∀ (s : m_St) (a : Int) (cc : Nat) (x : Int → Int) (z12 : Option Value), MI s0 s w a cc x m gd → Rn X (d + 8) 160 174 [some (vR 0), some (vI w), some (vI m), some (vR 77), some (vI n), some (vR 78), some (vI b), some (vI 1), some (vI a), some (vI t), some (vI 1), some (vI 0), z12] [] s P) : ∀ (q : Nat) (k a : Int) (cc : Nat) (x : Int → Int) (s : m_St) (z12 : Option Value), MI s0 s w a cc x k gd → k + q = m → Rn X (d + 8) 160 92 [some (vR 0), some (vI w), some (vI m), some (vR 77), some (vI n), some (vR 78), some (vI b), some (vI 1), some (vI a), some (vI t), some (vI 1), some (vI k), z12] [] s P := by
  intro q
  induction q with
  | zero =>
    intro k a cc x s z12 h kq
    obtain rfl : k = m := by omega
    apply t_L_makes_92 hU <;> intros
    all_goals first | omega | exact next _ _ _ _ _ h
  | succ q ih =>
    intro k a cc x s z12 h kq
    have hI := h
    obtain ⟨h1, h2, h3, h4, h5, h6, h7, h8, h9, h10, h11, h12⟩ := hI
    obtain ⟨f0, f4, t0, t4, hne⟩ := hp k h10 (by omega)
    have e77 : ∀ j, s 77 j = s0 77 j := fun j => h1 77 j (by decide) (by omega)
    have go : ∀ g : Int, 0 ≤ g → g ≤ 3 → (¬ k = 0 → g = 0) → Rn X (d + 8) 160 92 [some (vR 0), some (vI w), some (vI m), some (vR 77), some (vI n), some (vR 78), some (vI b), some (vI 1), some (vI (a + g + 1 + 1 + 1)), some (vI t), some (vI 1), some (vI (k + 1)), z12] [] (m_upd (m_upd (m_upd s 13 (a + g) (i2B 102)) 13 (a + g + 1) (i2B (48 + (m_upd s 13 (a + g) (i2B 102)) 77 (2 * k)))) 13 (a + g + 1 + 1) (i2B (48 + (m_upd (m_upd s 13 (a + g) (i2B 102)) 13 (a + g + 1) (i2B (48 + (m_upd s 13 (a + g) (i2B 102)) 77 (2 * k)))) 77 (2 * k + 1)))) P := by
      intro g g0 g3 gk
      have c1 : m_upd s 13 (a + g) (i2B 102) 77 (2 * k) = s0 77 (2 * k) := by rw [upd_nc (by decide), e77]
      rw [c1]
      have c2 : m_upd (m_upd s 13 (a + g) (i2B 102)) 13 (a + g + 1) (i2B (48 + s0 77 (2 * k))) 77 (2 * k + 1) = s0 77 (2 * k + 1) := by rw [upd_nc (by decide), upd_nc (by decide), e77]
      rw [c2, i2B_id (v := 102) (by decide) (by decide), i2B_id (v := 48 + s0 77 (2 * k)) (by omega) (by omega), i2B_id (v := 48 + s0 77 (2 * k + 1)) (by omega) (by omega)]
      have hM := MI_pair (s3 := m_upd (m_upd (m_upd s 13 (a + g) 102) 13 (a + g + 1) (48 + s0 77 (2 * k))) 13 (a + g + 1 + 1) (48 + s0 77 (2 * k + 1))) (p := a + g) h hp (by omega) m5 g6 (by omega) (by omega) (by omega) (fun c j hc => by rw [upd_o2 (by omega), upd_o2 (by omega), upd_o2 (by omega)]) (by rw [upd_nj (by omega), upd_nj (by omega), upd_eq]) (by rw [upd_nj (by omega), upd_eq]) (by rw [show a + g + 2 = a + g + 1 + 1 by omega, upd_eq])
      have hx := ih (k + 1) (a + g + 3) (cc + 1) _ _ z12 hM (by omega)
      rw [show a + g + 3 = a + g + 1 + 1 + 1 by omega] at hx
      exact hx
    have q0 : ∀ j, j < 60 → ∀ c v, m_upd s 13 c v 11 0 = 60 := fun j _ c v => by rw [upd_nc (by decide)]; exact h2
    have b3 := iAnd_x3 (iShr b 1)
    have b0 := iAnd_x0 (iShr b 1)
    have hs : ∀ g j, 0 ≤ g → g ≤ 3 → (¬ k = 0 → g = 0) → a + g ≤ j → j < 60 → s 13 j = 32 := fun g j g0 g3 gk j0 j1 => h4 j (by omega) j1
    have f77 := e77 (2 * k)
    have f77' := e77 (2 * k + 1)
    clear ih next
    apply t_L_makes_92 hU <;> intros
    all_goals first | omega | exact h2 | (exact h4 _ (by omega) (by omega)) | (rw [upd_nc (by decide)]; exact h2) | (rw [upd_nc (by decide), upd_nc (by decide)]; exact h2) | (rw [upd_nj (by omega)]; exact h4 _ (by omega) (by omega)) | (rw [upd_nj (by omega), upd_nj (by omega)]; exact h4 _ (by omega) (by omega)) | (exact go _ (by omega) (by omega) (by omega))
theorem lm_227 (hU : 2 ≤ X.2) {t k p : Int} {sB : m_St} (k0 : 0 ≤ k) (k6 : k < 6) (p0 : 0 ≤ p) (p1 : p + 5 ≤ 60) (h11 : sB 11 0 = 60) (hb : ∀ j, p ≤ j → j < 60 → sB 13 j = 32) (hw : ∀ c, 0 ≤ c → c < 4 → 0 ≤ sB 78 (5 * k + 1 + c) ∧ sB 78 (5 * k + 1 + c) ≤ 9) (next : ∀ s : m_St, (∀ c j, ¬ (c = 13 ∧ p ≤ j ∧ j < p + 5) → s c j = sB c j) → s 13 p = ltr (sB 78 (5 * k)) → (∀ c, 0 ≤ c → c < 4 → s 13 (p + 1 + c) = 48 + sB 78 (5 * k + 1 + c)) → Rn X (d + 8) 160 174 [some (vR 0), some (vI w), some (vI m), some (vR 77), some (vI n), some (vR 78), some (vI b), some (vI 1), some (vI (p + 5)), some (vI t), some (vI 0), some (vI (k + 1)), some (vI 4)] [] s P) : ∀ (q : Nat) (c : Int) (s : m_St), 0 ≤ c → c + q = 4 → (∀ x j, ¬ (x = 13 ∧ p ≤ j ∧ j < p + 1 + c) → s x j = sB x j) → s 13 p = ltr (sB 78 (5 * k)) → (∀ i, 0 ≤ i → i < c → s 13 (p + 1 + i) = 48 + sB 78 (5 * k + 1 + i)) → Rn X (d + 8) 160 227 [some (vR 0), some (vI w), some (vI m), some (vR 77), some (vI n), some (vR 78), some (vI b), some (vI 1), some (vI (p + 1 + c)), some (vI t), some (vI 0), some (vI k), some (vI c)] [] s P := by
  intro q
  induction q with
  | zero =>
    intro c s c0 cq e e0 e1
    obtain rfl : c = 4 := by omega
    apply t_L_makes_227 hU <;> intros
    all_goals first | omega | skip
    rw [show p + 1 + 4 = p + 5 by omega]
    exact next s (fun c j hc => e c j (by omega)) e0 e1
  | succ q ih =>
    intro c s c0 cq e e0 e1
    have hwc := hw c c0 (by omega)
    have e78 : s 78 (5 * k + 1 + c) = sB 78 (5 * k + 1 + c) := e 78 _ (by omega)
    have f11 : s 11 0 = 60 := by rw [e 11 0 (by omega)]; exact h11
    have f13 : s 13 (p + 1 + c) = 32 := by rw [e 13 _ (by omega)]; exact hb _ (by omega) (by omega)
    have hx := ih (c + 1) (m_upd s 13 (p + 1 + c) (48 + sB 78 (5 * k + 1 + c))) (by omega) (by omega) (fun x j hj => by rw [upd_o2 (by omega)]; exact e x j (by omega)) (by rw [upd_nj (by omega)]; exact e0) (fun i i0 i1 => by
      by_cases hi : i = c
      · subst hi; exact upd_eq
      · rw [upd_nj (by omega)]; exact e1 i i0 (by omega))
    rw [show p + 1 + (c + 1) = p + 1 + c + 1 by omega] at hx
    apply t_L_makes_227 hU <;> intros
    all_goals first | omega | exact f11 | exact f13 | skip
    rw [e78, i2B_id (by omega) (by omega)]
    exact hx
theorem lm_174 (hU : 2 ≤ X.2) (n0 : 0 ≤ n) (n6 : n ≤ 6) (hg : g9 s0 n) {t pd : Int} (p5 : pd ≤ 5) (next : ∀ (s : m_St) (a : Int) (cc : Nat) (x : Int → Int) (z11 z12 : Option Value), MI s0 s w a cc x pd n → Rn X (d + 8) 160 64 [some (vR 0), some (vI w), some (vI m), some (vR 77), some (vI n), some (vR 78), some (vI b), some (vI 1), some (vI a), some (vI (t + 1)), some (vI 0), z11, z12] [] s P) : ∀ (q : Nat) (k a : Int) (cc : Nat) (x : Int → Int) (s : m_St) (z12 : Option Value), MI s0 s w a cc x pd k → k + q = n → Rn X (d + 8) 160 174 [some (vR 0), some (vI w), some (vI m), some (vR 77), some (vI n), some (vR 78), some (vI b), some (vI 1), some (vI a), some (vI t), some (vI 0), some (vI k), z12] [] s P := by
  intro q
  induction q with
  | zero =>
    intro k a cc x s z12 h kq
    obtain rfl : k = n := by omega
    apply t_L_makes_174 hU <;> intros
    all_goals first | omega | exact next _ _ _ _ _ _ h
  | succ q ih =>
    intro k a cc x s z12 h kq
    have hI := h
    obtain ⟨h1, h2, h3, h4, h5, h6, h7, h8, h9, h10, h11, h12⟩ := hI
    obtain ⟨b0, b6, bw⟩ := hg k h11 (by omega)
    have e78 : ∀ j, s 78 j = s0 78 j := fun j => h1 78 j (by decide) (by omega)
    have hl := ltr_r (s0 78 (5 * k))
    have go : ∀ g : Int, 0 ≤ g → g ≤ 1 → Rn X (d + 8) 160 227 [some (vR 0), some (vI w), some (vI m), some (vR 77), some (vI n), some (vR 78), some (vI b), some (vI 1), some (vI (a + g + 1)), some (vI t), some (vI 0), some (vI k), some (vI 0)] [] (m_upd s 13 (a + g) (i2B (ltr (s 78 (5 * k))))) P := by
      intro g g0 g1
      rw [e78, i2B_id (by omega) (by omega)]
      have ew : ∀ c, 0 ≤ c → c < 4 → 0 ≤ s 78 (5 * k + 1 + c) ∧ s 78 (5 * k + 1 + c) ≤ 9 := fun c c0 c1 => by rw [e78]; exact bw c c0 c1
      have hx := lm_227 (X := X) (d := d) (P := P) (w := w) (m := m) (n := n) (b := b) (t := t) hU h11 (by omega) (p := a + g) (by omega) (by omega) h2 (fun j j0 j1 => h4 j (by omega) j1) ew (fun s3 f1 f2 f3 => by
        have hM := MI_guest (s3 := s3) (p := a + g) h hg (by omega) n6 p5 (by omega) (by omega) f1 (by rw [f2, e78]) (fun c c0 c1 => by rw [f3 c c0 c1, e78])
        exact ih (k + 1) (a + g + 5) (cc + 1) _ s3 _ hM (by omega)) 4 0 (m_upd s 13 (a + g) (ltr (s0 78 (5 * k)))) (by omega) (by omega) (fun x j hj => by rw [upd_o2 (by omega)]) (by rw [upd_eq, e78]) (fun i i0 i1 => by omega)
      rw [Int.add_zero] at hx
      exact hx
    have c1 := iAnd_x1 (iShr b (3 + k))
    have c0 := iAnd_x0 (iShr b (3 + k))
    have f78 := e78 (5 * k)
    clear ih next
    apply t_L_makes_174 hU <;> intros
    all_goals first | omega | exact h2 | (exact h4 _ (by omega) (by omega)) | (exact go _ (by omega) (by omega))
/-- the text is laid -/
theorem lm_makes (hU : 2 ≤ X.2) (w0 : 0 ≤ w) (w4 : w ≤ 40) (m0 : 0 ≤ m) (m5 : m ≤ 5) (n2 : 2 ≤ n) (n6 : n ≤ 6) (hp : pL_ s0 m) (hg : g9 s0 n) (h10 : s0 10 2 = 60) (next : ∀ (s : m_St) (a : Int) (cc : Nat) (x : Int → Int) (z10 z11 z12 : Option Value), MI s0 s w a cc x m n → Rn X (d + 8) 160 64 [some (vR 0), some (vI w), some (vI m), some (vR 77), some (vI n), some (vR 78), some (vI b), some (vI 1), some (vI a), some (vI 2), z10, z11, z12] [] s P) : Cl X (d + 8) 160 [vR 0, vI w, vI m, vR 77, vI n, vR 78, vI b] s0 P := by
  have bt9 := iAnd_x1 (iShr b 9)
  -- pairs, guests: each in its turn
  have pairs : ∀ (t gd : Int), gd ≤ 6 → iAnd (iShr b 9) 1 = t → t < 2 → 0 ≤ t → (∀ (s : m_St) (a : Int) (cc : Nat) (x : Int → Int) (z10 z11 z12 : Option Value), MI s0 s w a cc x m gd → Rn X (d + 8) 160 64 [some (vR 0), some (vI w), some (vI m), some (vR 77), some (vI n), some (vR 78), some (vI b), some (vI 1), some (vI a), some (vI (t + 1)), z10, z11, z12] [] s P) → ∀ (s : m_St) (a : Int) (cc : Nat) (x : Int → Int) (z10 z11 z12 : Option Value), MI s0 s w a cc x 0 gd → Rn X (d + 8) 160 64 [some (vR 0), some (vI w), some (vI m), some (vR 77), some (vI n), some (vR 78), some (vI b), some (vI 1), some (vI a), some (vI t), z10, z11, z12] [] s P := by
    intro t gd g6 ht t2 t0 nx s a cc x z10 z11 z12 h
    apply t_L_makes_64 hU <;> intros
    all_goals first | omega | skip
    refine lm_92 hU m0 m5 hp g6 (fun s a cc x z12 h => ?_) m.toNat 0 a cc x s z12 h (by omega)
    apply t_L_makes_174 hU <;> intros
    all_goals first | omega | exact nx _ _ _ _ _ _ _ h
  have guests : ∀ (t pd : Int), pd ≤ 5 → ¬ iAnd (iShr b 9) 1 = t → t < 2 → 0 ≤ t → (∀ (s : m_St) (a : Int) (cc : Nat) (x : Int → Int) (z10 z11 z12 : Option Value), MI s0 s w a cc x pd n → Rn X (d + 8) 160 64 [some (vR 0), some (vI w), some (vI m), some (vR 77), some (vI n), some (vR 78), some (vI b), some (vI 1), some (vI a), some (vI (t + 1)), z10, z11, z12] [] s P) → ∀ (s : m_St) (a : Int) (cc : Nat) (x : Int → Int) (z10 z11 z12 : Option Value), MI s0 s w a cc x pd 0 → Rn X (d + 8) 160 64 [some (vR 0), some (vI w), some (vI m), some (vR 77), some (vI n), some (vR 78), some (vI b), some (vI 1), some (vI a), some (vI t), z10, z11, z12] [] s P := by
    intro t pd p5 ht t2 t0 nx s a cc x z10 z11 z12 h
    apply t_L_makes_64 hU <;> intros
    all_goals first | omega | skip
    have go : ∀ z12 : Option Value, Rn X (d + 8) 160 174 [some (vR 0), some (vI w), some (vI m), some (vR 77), some (vI n), some (vR 78), some (vI b), some (vI 1), some (vI a), some (vI t), some (vI 0), some (vI 0), z12] [] s P := fun z12 => lm_174 hU (by omega) n6 hg p5 (fun s a cc x z11 z12 h => nx _ _ _ _ _ _ _ h) n.toNat 0 a cc x s z12 h (by omega)
    apply t_L_makes_92 hU <;> intros
    all_goals first | omega | exact go _
  have start : ∀ (s : m_St) (a : Int) (cc : Nat) (x : Int → Int) (z10 z11 z12 : Option Value), MI s0 s w a cc x 0 0 → Rn X (d + 8) 160 64 [some (vR 0), some (vI w), some (vI m), some (vR 77), some (vI n), some (vR 78), some (vI b), some (vI 1), some (vI a), some (vI 0), z10, z11, z12] [] s P := by
    intro s a cc x z10 z11 z12 h
    by_cases hb : iAnd (iShr b 9) 1 = 0
    · exact pairs 0 0 (by omega) hb (by omega) (by omega) (guests 1 m m5 (by omega) (by omega) (by omega) next) s a cc x z10 z11 z12 h
    · exact guests 0 0 (by omega) hb (by omega) (by omega) (pairs 1 n n6 (by omega) (by omega) (by omega) next) s a cc x z10 z11 z12 h
  have c1 := iAnd_x1 b
  generalize hc : iAnd b 1 = g at c1
  have f1 : ∀ c j, ¬ c = 13 → ¬ (c = 11 ∧ j = 0) → fil (m_upd s0 11 0 60) 13 60 32 c j = s0 c j := fun c j q1 q2 => by rw [filK_o (by omega), upd_o2 (by omega)]
  have f2 : fil (m_upd s0 11 0 60) 13 60 32 11 0 = 60 := by rw [filK_o (by omega), upd_eq]
  have f3 : ∀ j, 0 ≤ j → j < 60 → fil (m_upd s0 11 0 60) 13 60 32 13 j = 32 := fun j j0 j1 => filK_in j0 j1
  apply t_L_makes hU <;> intros
  all_goals (try rw [hc])
  all_goals first | exact h10 | exact f2 | omega | (exact f3 _ (by omega) (by omega)) | (rw [upd_nc (by decide)]; exact f2) | (rw [upd_nc (by decide), upd_nc (by decide)]; exact f2) | (rw [upd_nj (by omega)]; exact f3 _ (by omega) (by omega)) | (rw [upd_nj (by omega), upd_nj (by omega)]; exact f3 _ (by omega) (by omega)) | skip
  rw [i2B_id (v := 119) (by decide) (by decide), i2B_id (v := 48 + w / 10) (by omega) (by omega), i2B_id (v := 48 + w % 10) (by omega) (by omega)]
  generalize fil (m_upd s0 11 0 60) 13 60 32 = s1 at f1 f2 f3 ⊢
  have e : ∀ c j, ¬ (c = 13 ∧ g ≤ j ∧ j < g + 3) → m_upd (m_upd (m_upd s1 13 g 119) 13 (g + 1) (48 + w / 10)) 13 (g + 1 + 1) (48 + w % 10) c j = s1 c j := fun c j hc => by rw [upd_o2 (by omega), upd_o2 (by omega), upd_o2 (by omega)]
  have e0 : m_upd (m_upd (m_upd s1 13 g 119) 13 (g + 1) (48 + w / 10)) 13 (g + 1 + 1) (48 + w % 10) 13 g = 119 := by rw [upd_nj (by omega), upd_nj (by omega), upd_eq]
  have e1 : m_upd (m_upd (m_upd s1 13 g 119) 13 (g + 1) (48 + w / 10)) 13 (g + 1 + 1) (48 + w % 10) 13 (g + 1) = 48 + w / 10 := by rw [upd_nj (by omega), upd_eq]
  have e2 : m_upd (m_upd (m_upd s1 13 g 119) 13 (g + 1) (48 + w / 10)) 13 (g + 1 + 1) (48 + w % 10) 13 (g + 2) = 48 + w % 10 := by rw [show g + 2 = g + 1 + 1 by omega, upd_eq]
  generalize m_upd (m_upd (m_upd s1 13 g 119) 13 (g + 1) (48 + w / 10)) 13 (g + 1 + 1) (48 + w % 10) = s2 at e e0 e1 e2 ⊢
  rw [show g + 1 + 1 + 1 = g + 3 by omega]
  refine start s2 (g + 3) 0 (xwood g w) none none none ⟨fun c j q1 q2 => by rw [e c j (by omega)]; exact f1 c j q1 q2, by rw [e 11 0 (by omega)]; exact f2, fun j j0 j1 => ?_, fun j j0 j1 => by rw [e 13 j (by omega)]; exact f3 j (by omega) j1, ?_, PX_wood, rfl, by omega, by omega, by omega, by omega, by omega⟩
  · by_cases q : g ≤ j ∧ j < g + 3
    · rcases (show j = g ∨ j = g + 1 ∨ j = g + 2 by omega) with rfl | rfl | rfl <;> omega
    · rw [e 13 j (by omega), f3 j j0 j1]
      omega
  · exact RD_wood (by omega) (by omega) w0 w4 (fun hg1 => by rw [e 13 0 (by omega)]; exact f3 0 (by omega) (by omega)) e0 e1 e2
end MAKES
