/-! the law's own methods: drawing, who holds what, by how much one is moved -/
/-- what a guest of the law's holds -/
def hA (s : m_St) (k : Int) : Int := hset (fun c => s 78 (5 * k + 1 + c)) (hf (s 78 (5 * k)))
theorem inR_hA (s : m_St) (k : Int) : inR (hA s k) := inR_hset _ _
def cnA (s : m_St) (z : Int) : Int := if iAnd (iShr (hA s (s 79 (z / 4))) (z % 4)) 1 = 1 then 1 else 0
theorem inR_cnA (s : m_St) (z : Int) : inR (cnA s z) := by unfold cnA; split <;> decide
/-- the law's guests in order -/
def gL (s : m_St) (n : Int) : Prop := ∀ i, 0 ≤ i → i < n → 0 ≤ s 78 (5 * i) ∧ s 78 (5 * i) < 6 ∧ ∀ c, 0 ≤ c → c < 4 → 0 ≤ s 78 (5 * i + 1 + c) ∧ s 78 (5 * i + 1 + c) ≤ 20
def pL_ (s : m_St) (m : Int) : Prop := ∀ k, 0 ≤ k → k < m → 0 ≤ s 77 (2 * k) ∧ s 77 (2 * k) < 4 ∧ 0 ≤ s 77 (2 * k + 1) ∧ s 77 (2 * k + 1) < 4 ∧ ¬ s 77 (2 * k) = s 77 (2 * k + 1)
theorem pL_r {s : m_St} {m : Int} (h : pL_ s m) : ∀ j, 0 ≤ j → j < 2 * m → inR (s 77 j) := fun j j0 j1 => by
  obtain ⟨a1, a2, a3, a4, a5⟩ := h (j / 2) (by omega) (by omega)
  by_cases hj : j % 2 = 0
  · rw [show 2 * (j / 2) = j by omega] at a1 a2
    omega
  · rw [show 2 * (j / 2) + 1 = j by omega] at a3 a4
    omega
theorem gL_w {s : m_St} {n i : Int} (h : gL s n) (i0 : 0 ≤ i) (i1 : i < n) : wr (fun c => s 78 (5 * i + 1 + c)) := fun c c0 c1 => by
  have := (h i i0 i1).2.2 c c0 c1
  show inR (s 78 (5 * i + 1 + c))
  omega
/-- the reasons R are the pairs of f -/
def trL (R : Int) (f : Int → Int) (m : Nat) : Prop := ∀ i c : Nat, i < 4 → c < 4 → (bt R (4 * c + i) = true ↔ ¬ tld f m i c = 0)
section SLB
variable {X : m_X} {d : Nat} {s : m_St} {P : Option Value → m_St → Prop} {k v n p h m c z i j : Int}
theorem sp_heldL (hU : 2 ≤ X.2) (k0 : 0 ≤ k) (k1 : k < n) (n6 : n ≤ 6) (hg : gL s n) (kk : P (some (vI (hA s k))) s) : Cl X (d + 1) 169 [vR 78, vI k] s P := by
  have hw := gL_w hg k0 k1
  have hk := hg k k0 k1
  apply t_L_held hU <;> intros
  all_goals first | exact hw | exact kk | omega
theorem sp_canL (hU : 4 ≤ X.2) (z0 : 0 ≤ z) (z8 : z < 8) (n6 : n ≤ 6) (hg : gL s n) (u0 : 0 ≤ s 79 0) (u1 : s 79 0 < n) (v0 : 0 ≤ s 79 1) (v1 : s 79 1 < n) (kk : P (some (vI (cnA s z))) s) : Cl X (d + 1) 163 [vR 78, vR 79, vI z] s P := by
  have hu : 0 ≤ s 79 (z / 4) ∧ s 79 (z / 4) < n := by
    rcases (show z / 4 = 0 ∨ z / 4 = 1 by omega) with e | e
    · rw [e]; exact ⟨u0, u1⟩
    · rw [e]; exact ⟨v0, v1⟩
  have hw := gL_w hg hu.1 hu.2
  have hk := hg _ hu.1 hu.2
  unfold cnA hA at kk
  apply t_L_can hU <;> intros
  all_goals first | exact hw | omega | (refine PI kk ?_; rw [if_neg (by assumption)]) | (refine PI kk ?_; rw [if_pos (by assumption)])
theorem sp_draws (hU : 2 ≤ X.2) (hX : X.1.length < 2147483648) (j0 : 0 ≤ j) (j1 : j < 1000) (m0 : 0 ≤ m) (m5 : m ≤ 5) (n0 : 0 ≤ n) (n6 : n ≤ 6) (kk : ∀ s', (∀ c j, ¬ c = 77 → ¬ c = 78 → s' c j = s c j) → pL_ s' m → (∀ i, 0 ≤ i → i < n → 0 ≤ s' 78 (5 * i) ∧ s' 78 (5 * i) < 6 ∧ ∀ c, 0 ≤ c → c < 4 → 0 ≤ s' 78 (5 * i + 1 + c) ∧ s' 78 (5 * i + 1 + c) ≤ 9) → P none s') : Cl X (d + 1) 159 [vR 1000, vI j, vI m, vR 77, vI n, vR 78] s P := by
  have l110 : ∀ (q : Nat) (c k u v : Int) (s1 : m_St), 0 ≤ c → c + q = 4 → 0 ≤ k → k < 6 → (∀ s2, (∀ a i, ¬ (a = 78 ∧ 5 * k + 1 + c ≤ i ∧ i < 5 * k + 5) → s2 a i = s1 a i) → (∀ x, c ≤ x → x < 4 → 0 ≤ s2 78 (5 * k + 1 + x) ∧ s2 78 (5 * k + 1 + x) ≤ 9) → Rn X (d + 1) 159 74 [some (vR 1000), some (vI j), some (vI m), some (vR 77), some (vI n), some (vR 78), some (vI v), some (vI (k + 1)), some (vI u), some (vI 4)] [] s2 P) → Rn X (d + 1) 159 110 [some (vR 1000), some (vI j), some (vI m), some (vR 77), some (vI n), some (vR 78), some (vI v), some (vI k), some (vI u), some (vI c)] [] s1 P := by
    intro q
    induction q with
    | zero =>
      intro c k u v s1 c0 cq k0 k6 hn
      obtain rfl : c = 4 := by omega
      apply t_L_draws_110 hU <;> intros
      all_goals first | omega | skip
      exact hn s1 (fun _ _ _ => rfl) (fun x x0 x1 => by omega)
    | succ q ih =>
      intro c k u v s1 c0 cq k0 k6 hn
      have stp : ∀ w, 0 ≤ w → w ≤ 9 → Rn X (d + 1) 159 110 [some (vR 1000), some (vI j), some (vI m), some (vR 77), some (vI n), some (vR 78), some (vI v), some (vI k), some (vI u), some (vI (c + 1))] [] (m_upd s1 78 (5 * k + 1 + c) w) P := fun w w0 w9 => by
        refine ih (c + 1) k u v _ (by omega) (by omega) k0 k6 (fun s2 h1 h2 => hn s2 (fun a i hai => ?_) (fun x x0 x1 => ?_))
        · rw [h1 a i (by omega)]
          exact upd_o2 (by omega)
        · by_cases hx : x = c
          · subst hx
            rw [h1 78 (5 * k + 1 + x) (by omega), upd_eq]
            exact ⟨w0, w9⟩
          · exact h2 x (by omega) x1
      apply t_L_draws_110 hU <;> intros
      all_goals first | omega | (refine stp _ ?_ ?_ <;> omega)
  have l74 : ∀ (q : Nat) (k v : Int) (z8 z9 : Option Value) (s1 : m_St), 0 ≤ k → k + q = n → (∀ c j, ¬ c = 77 → ¬ c = 78 → s1 c j = s c j) → pL_ s1 m → (∀ i, 0 ≤ i → i < k → 0 ≤ s1 78 (5 * i) ∧ s1 78 (5 * i) < 6 ∧ ∀ c, 0 ≤ c → c < 4 → 0 ≤ s1 78 (5 * i + 1 + c) ∧ s1 78 (5 * i + 1 + c) ≤ 9) → Rn X (d + 1) 159 74 [some (vR 1000), some (vI j), some (vI m), some (vR 77), some (vI n), some (vR 78), some (vI v), some (vI k), z8, z9] [] s1 P := by
    intro q
    induction q with
    | zero =>
      intro k v z8 z9 s1 k0 kq h1 h2 h3
      obtain rfl : k = n := by omega
      apply t_L_draws_74 hU <;> intros
      all_goals first | omega | exact kk s1 h1 h2 h3
    | succ q ih =>
      intro k v z8 z9 s1 k0 kq h1 h2 h3
      apply t_L_draws_74 hU <;> intros
      all_goals first | exact hX | omega | skip
      next g1 v3 g2 v4 g3 g4 _ =>
      refine l110 4 0 k v3 v _ (by omega) (by omega) k0 (by omega) (fun s2 f1 f2 => ?_)
      refine ih (k + 1) v _ _ s2 (by omega) (by omega) (fun c j hc hc2 => ?_) (fun x x0 x1 => ?_) (fun x x0 x1 => ?_)
      · rw [f1 c j (by omega), upd_nc hc2]; exact h1 c j hc hc2
      · have e : ∀ i, s2 77 i = s1 77 i := fun i => by rw [f1 77 i (by omega), upd_nc (by decide)]
        rw [e, e]
        exact h2 x x0 x1
      · by_cases hx : x = k
        · subst hx
          rw [f1 78 (5 * x) (by omega), upd_eq]
          exact ⟨g3, g4, fun c c0 c1 => f2 c c0 c1⟩
        · rw [f1 78 (5 * x) (by omega), upd_nj (by omega)]
          obtain ⟨b1, b2, b3⟩ := h3 x x0 (by omega)
          refine ⟨b1, b2, fun c c0 c1 => ?_⟩
          rw [f1 78 (5 * x + 1 + c) (by omega), upd_nj (by omega)]
          exact b3 c c0 c1
  have l10 : ∀ (q : Nat) (k v : Int) (s1 : m_St), 0 ≤ k → k + q = m → (∀ c j, ¬ c = 77 → ¬ c = 78 → s1 c j = s c j) → pL_ s1 k → Rn X (d + 1) 159 10 [some (vR 1000), some (vI j), some (vI m), some (vR 77), some (vI n), some (vR 78), some (vI v), some (vI k), none, none] [] s1 P := by
    intro q
    induction q with
    | zero =>
      intro k v s1 k0 kq h1 h2
      obtain rfl : k = m := by omega
      apply t_L_draws_10 hU <;> intros
      all_goals first | omega | skip
      exact l74 n.toNat 0 v none none s1 (by omega) (by omega) h1 h2 (fun i i0 i1 => by omega)
    | succ q ih =>
      intro k v s1 k0 kq h1 h2
      apply t_L_draws_10 hU <;> intros
      all_goals first | omega | skip
      next g1 v3 g2 g3 _ v4 g4 g5 _ =>
      refine ih (k + 1) v _ (by omega) (by omega) (fun c j hc hc2 => ?_) (fun x x0 x1 => ?_)
      · rw [upd_nc hc, upd_nc hc]; exact h1 c j hc hc2
      · by_cases hx : x = k
        · subst hx
          rw [upd_nj (by omega), upd_eq, upd_eq]
          omega
        · rw [upd_nj (by omega), upd_nj (by omega), upd_nj (by omega), upd_nj (by omega)]
          exact h2 x x0 (by omega)
  apply t_L_draws hU <;> intros
  all_goals first | exact hX | omega | skip
  exact l10 m.toNat 0 _ s (by omega) (by omega) (fun _ _ _ _ => rfl) (fun x x0 x1 => by omega)
theorem sp_movedL {R : Int} (hU : 2 ≤ X.2) (ht : trL R (s 77) m.toNat) (m0 : 0 ≤ m) (m5 : m ≤ 5) (hp : ∀ j, 0 ≤ j → j < 2 * m → inR (s 77 j)) (k0 : 0 ≤ k) (k6 : k < 6) (p0 : 0 ≤ p) (p1 : p + 3 < 30) (hw : wr (fun c => s 78 (p + c))) (c0 : 0 ≤ c) (c4 : c < 4) (kk : P (some (vI (mv k (hset (fun c => s 78 (p + c)) (hf k)) R c))) s) : Cl X (d + 1) 167 [vI m, vR 77, vI k, vR 78, vI p, vI c] s P := by
  have hr := hset_r (fun c => s 78 (p + c)) (hf k)
  revert kk hr
  generalize hH : hset (fun c => s 78 (p + c)) (hf k) = H
  intro kk hr
  have e : iAnd (iShr R (4 * c)) H = 0 ↔ ¬ ∃ j : Nat, j < 4 ∧ bt H j = true ∧ ¬ tld (s 77) m.toNat j c = 0 := by
    rw [and_0]
    constructor
    · intro hh ⟨j, j4, hj, hq⟩
      refine hh j (by omega) ⟨?_, hj⟩
      rw [bt_shr (by omega) (by omega), show (4 * c).toNat + j = 4 * c.toNat + j by omega]
      refine (ht j c.toNat j4 (by omega)).mpr ?_
      rw [show ((c.toNat : Nat) : Int) = c by omega]
      exact hq
    · intro hh k hk ⟨h2, h3⟩
      by_cases k4 : k < 4
      · rw [bt_shr (by omega) (by omega), show (4 * c).toNat + k = 4 * c.toNat + k by omega] at h2
        have := (ht k c.toNat k4 (by omega)).mp h2
        rw [show ((c.toNat : Nat) : Int) = c by omega] at this
        exact hh ⟨k, k4, h3, this⟩
      · rw [bt_lt hr.1 hr.2 (by omega)] at h3
        cases h3
  have fin : ∀ v, v = mv k H R c → P (some (vI v)) s := fun v hv => PI kk hv.symm
  have b := bit_of (a := H) c0 (by omega)
  have hbb : iAnd (iShr H c) 1 = 0 ∨ iAnd (iShr H c) 1 = 1 := by
    rw [b]; cases bt H c.toNat
    · exact Or.inl rfl
    · exact Or.inr rfl
  have loop : ∀ (q : Nat) (f i : Int), 0 ≤ i → i + q = 4 → (f = 1 ∨ f = 2) → (f = 2 ↔ ∃ j : Nat, (j : Int) < i ∧ bt H j = true ∧ ¬ tld (s 77) m.toNat j c = 0) → Rn X (d + 1) 167 15 [some (vI m), some (vR 77), some (vI k), some (vR 78), some (vI p), some (vI c), some (vI H), some (vI f), some (vI i)] [] s P := by
    intro q
    induction q with
    | zero =>
      intro f i i0 im hf0 hf1
      have i4 : i = 4 := by omega
      subst i4
      have e2 : iAnd (iShr R (4 * c)) H = 0 ↔ ¬ f = 2 := by
        rw [e, hf1]
        constructor
        · intro z ⟨j, j1, j2⟩
          exact z ⟨j, by omega, j2⟩
        · intro z ⟨j, j1, j2⟩
          exact z ⟨j, by omega, j2⟩
      unfold mv at fin
      have hma : ma k = if k = 1 ∨ k = 4 then 1 else if k = 2 ∨ k = 5 then 2 else if k = 3 then 3 else 0 := rfl
      apply t_L_moved_15 hU <;> intros
      all_goals first | omega | skip
      apply t_L_moved_58 hU <;> intros
      all_goals first | omega | (refine fin _ ?_; omega)
    | succ q ih =>
      intro f i i0 im hf0 hf1
      have bh := bit_1 (a := H) i0 (by omega)
      have same : ¬ (bt H i.toNat = true ∧ ¬ tld (s 77) m.toNat i c = 0) → Rn X (d + 1) 167 15 [some (vI m), some (vR 77), some (vI k), some (vR 78), some (vI p), some (vI c), some (vI H), some (vI f), some (vI (i + 1))] [] s P := fun hn => by
        refine ih f (i + 1) (by omega) (by omega) hf0 ?_
        rw [hf1]
        constructor
        · intro ⟨j, j1, j2⟩
          exact ⟨j, by omega, j2⟩
        · intro ⟨j, j1, j2, j3⟩
          by_cases hj : (j : Int) = i
          · exfalso
            rw [hj] at j3
            exact hn ⟨by rw [← hj]; exact j2, j3⟩
          · exact ⟨j, by omega, j2, j3⟩
      apply t_L_moved_15 hU <;> intros
      all_goals first | (exact hp _ (by assumption) (by assumption)) | omega | skip
      · next g1 g2 => exact same (fun z => g2 (bh.mpr z.1))
      · next g1 g2 g3 => exact same (fun z => z.2 g3)
      · next g1 g2 g3 =>
        refine ih 2 (i + 1) (by omega) (by omega) (Or.inr rfl) ⟨fun _ => ⟨i.toNat, by omega, bh.mp g2, ?_⟩, fun _ => rfl⟩
        rw [show ((i.toNat : Nat) : Int) = i by omega]
        exact g3
  apply t_L_moved hU <;> intros
  all_goals first | exact hw | omega | skip
  rw [hH]
  refine loop 4 1 0 (by omega) (by omega) (Or.inl rfl) ⟨fun z => absurd z (by decide), fun ⟨j, j1, _⟩ => by omega⟩
end SLB
