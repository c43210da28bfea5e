/-! the reference: triples, who fits, what a claim moves alike -/
def atM (s : m_St) (r : Int) : Prop := ∀ j, 0 ≤ j → j < s 78 r → j % 3 = 0 → (0 ≤ s 79 (40 * r + j) ∧ s 79 (40 * r + j) < 4) ∧ (0 ≤ s 79 (40 * r + j + 1) ∧ s 79 (40 * r + j + 1) ≤ 20) ∧ 9 ≤ s 79 (40 * r + j + 2) ∧ s 79 (40 * r + j + 2) ≤ 13
def rwM (s : m_St) (r : Int) : Prop := -1 ≤ s 78 r ∧ s 78 r ≤ 40 ∧ ∀ j, 0 ≤ j → j < s 78 r → inR (s 79 (40 * r + j))
def fitM (s : m_St) (i r q j : Int) : Prop := mv q (hset (fun c => if c = s 79 (40 * r + j) then s 79 (40 * r + j + 1) else s 83 (9 + 5 * i + c)) (hf q)) (s 38 5) (s 79 (40 * r + j)) + 10 = s 79 (40 * r + j + 2)
def fiM (s : m_St) (i r q : Int) : Prop := ∀ j, 0 ≤ j → j < s 78 r → j % 3 = 0 → fitM s i r q j
def fr80 (s s' : m_St) : Prop := ∀ c j, ¬ c = 80 → s' c j = s c j
def mvM (s : m_St) (i c q : Int) : Int := mv q (hset (fun x => s 83 (9 + 5 * i + x)) (hf q)) (s 38 5) c
def alt (b : Int) (f : Int → Int) (y : Int) : Int → Int := fun q => if iAnd (iShr b q) 1 = 1 ∧ f q = y then 1 else 0
def alm (b : Int) (f : Int → Int) : Nat → Int
  | 0 => 0
  | n + 1 => max (alm b f n) (sm (alt b f ((n : Int) - 1)) 6)
def qBa (s : m_St) (i r v : Int) (s' : m_St) : Prop :=
  (v = 0 ∧ s' = s ∧ 0 ≤ i ∧ i < s 83 0 ∧ 0 ≤ r ∧ r < 6 ∧ 0 ≤ s 78 r ∧ s 78 r % 3 = 0 ∧ atM s r) ∨ (v = -1 ∧ s' = s ∧ ¬ (0 ≤ i ∧ i < s 83 0 ∧ 0 ≤ r ∧ r < 6)) ∨
  (v = -3 ∧ 0 ≤ i ∧ i < s 83 0 ∧ 0 ≤ r ∧ r < 6 ∧ ((s' = mfd s 1 ∧ s 78 r = -1) ∨ (s' = mfd s 5 ∧ 0 ≤ s 78 r ∧ ¬ s 78 r % 3 = 0) ∨ (s' = mfd s 3 ∧ 0 ≤ s 78 r ∧ s 78 r % 3 = 0 ∧ ¬ atM s r)))
theorem alt_r {b y : Int} {f : Int → Int} : ∀ n : Nat, 0 ≤ sm (alt b f y) n ∧ sm (alt b f y) n ≤ n := by
  intro n
  induction n with
  | zero => exact ⟨by show (0 : Int) ≤ 0; omega, by show (0 : Int) ≤ 0; omega⟩
  | succ n ih =>
    rw [sm_s]
    have : alt b f y n = 0 ∨ alt b f y n = 1 := by
      unfold alt
      split
      · exact Or.inr rfl
      · exact Or.inl rfl
    omega
theorem alm_r {b : Int} {f : Int → Int} : ∀ n : Nat, 0 ≤ alm b f n ∧ alm b f n ≤ 6 := by
  intro n
  induction n with
  | zero => exact ⟨by show (0 : Int) ≤ 0; omega, by show (0 : Int) ≤ 6; omega⟩
  | succ n ih =>
    have := alt_r (b := b) (f := f) (y := (n : Int) - 1) 6
    show 0 ≤ max _ _ ∧ max _ _ ≤ 6
    omega
theorem inR_alm (b : Int) (f : Int → Int) (n : Nat) : inR (alm b f n) := by have := alm_r (b := b) (f := f) n; omega
theorem alm_ge {b : Int} {f : Int → Int} : ∀ (n k : Nat), k < n → sm (alt b f ((k : Int) - 1)) 6 ≤ alm b f n := by
  intro n
  induction n with
  | zero => intro k hk; omega
  | succ n ih =>
    intro k hk
    show _ ≤ max (alm b f n) (sm (alt b f ((n : Int) - 1)) 6)
    by_cases h : k = n
    · subst h; omega
    · have := ih k (by omega); omega
theorem gpa_ge {b : Int} {f : Int → Int} : ∀ (n k : Nat), k < n → sm (alk b f k) 6 ≤ gpa b f n := by
  intro n
  induction n with
  | zero => intro k hk; omega
  | succ n ih =>
    intro k hk
    show _ ≤ max (gpa b f n) (sm (alk b f n) 6)
    by_cases h : k = n
    · subst h; omega
    · have := ih k (by omega); omega
theorem alk_b {b : Int} {f : Int → Int} {k o : Nat} (hk : k < 32) (ho : o < 32) : alk b f k o = if bt b k = true ∧ bt b o = true ∧ f k = f o then 1 else 0 := by
  have e : iAnd (iAnd (iShr b (k : Int)) (iShr b (o : Int))) 1 = 0 ↔ ¬ (bt b k = true ∧ bt b o = true) := by
    rw [and_0]
    constructor
    · intro h hb
      refine h 0 (by omega) ⟨?_, by rw [bt_1]; rfl⟩
      rw [bt_and, bt_shr (by omega) (by omega), bt_shr (by omega) (by omega)]
      simp only [Int.toNat_natCast, Nat.add_zero]
      rw [hb.1, hb.2]
      rfl
    · intro h j hj ⟨h1, h2⟩
      rw [bt_1, decide_eq_true_eq] at h2
      subst h2
      rw [bt_and, bt_shr (by omega) (by omega), bt_shr (by omega) (by omega), Bool.and_eq_true] at h1
      simp only [Int.toNat_natCast, Nat.add_zero] at h1
      exact h h1
  unfold alk
  by_cases h : bt b k = true ∧ bt b o = true
  · rw [if_neg (fun z => e.mp z h)]
    by_cases h2 : f (k : Int) = f (o : Int)
    · rw [if_pos h2, if_pos ⟨h.1, h.2, h2⟩]
    · rw [if_neg h2, if_neg (fun z => h2 z.2.2)]
  · rw [if_pos (e.mpr h), if_neg (fun z => h ⟨z.1, z.2.1⟩)]
theorem alt_b {b y : Int} {f : Int → Int} {o : Nat} (ho : o < 32) : alt b f y o = if bt b o = true ∧ f o = y then 1 else 0 := by
  have e := bit_1 (a := b) (j := (o : Int)) (by omega) (by omega)
  rw [Int.toNat_natCast] at e
  unfold alt
  by_cases h : bt b o = true ∧ f (o : Int) = y
  · rw [if_pos ⟨e.mpr h.1, h.2⟩, if_pos h]
  · rw [if_neg (fun z => h ⟨e.mp z.1, z.2⟩), if_neg h]
theorem gpa_alm {b : Int} {f : Int → Int} (hf_ : ∀ q, -1 ≤ f q ∧ f q ≤ 3) : gpa b f 6 = alm b f 5 := by
  have one : ∀ k : Nat, k < 6 → bt b k = true → sm (alk b f k) 6 = sm (alt b f (f k)) 6 := fun k hk hb => sm_cong fun o ho => by
    rw [alk_b (by omega) (by omega), alt_b (by omega)]
    by_cases h : bt b o = true ∧ f (o : Int) = f (k : Int)
    · rw [if_pos ⟨hb, h.1, h.2.symm⟩, if_pos h]
    · rw [if_neg (fun z => h ⟨z.2.1, z.2.2.symm⟩), if_neg h]
  have le1 : ∀ n : Nat, n ≤ 6 → gpa b f n ≤ alm b f 5 := by
    intro n
    induction n with
    | zero => intro _; exact (alm_r 5).1
    | succ n ih =>
      intro hn
      have h1 := ih (by omega)
      have h2 : sm (alk b f n) 6 ≤ alm b f 5 := by
        by_cases hb : bt b n = true
        · rw [one n (by omega) hb]
          have hr := hf_ (n : Int)
          have := alm_ge (b := b) (f := f) 5 (f (n : Int) + 1).toNat (by omega)
          rw [show (((f (n : Int) + 1).toNat : Nat) : Int) - 1 = f (n : Int) by omega] at this
          exact this
        · have : sm (alk b f n) 6 = sm (fun _ => 0) 6 := sm_cong fun o ho => by rw [alk_b (by omega) (by omega), if_neg (fun z => hb z.1)]
          rw [this]
          exact (alm_r 5).1
      show max (gpa b f n) (sm (alk b f n) 6) ≤ _
      omega
  have le2 : ∀ n : Nat, n ≤ 5 → alm b f n ≤ gpa b f 6 := by
    intro n
    induction n with
    | zero => intro _; exact (gpa_r 6).1
    | succ n ih =>
      intro hn
      have h1 := ih (by omega)
      have h2 : sm (alt b f ((n : Int) - 1)) 6 ≤ gpa b f 6 := by
        by_cases hx : ∃ k : Nat, k < 6 ∧ bt b k = true ∧ f (k : Int) = (n : Int) - 1
        · obtain ⟨k, k6, hb, he⟩ := hx
          rw [← he, ← one k k6 hb]
          exact gpa_ge 6 k k6
        · have : sm (alt b f ((n : Int) - 1)) 6 = sm (fun _ => 0) 6 := sm_cong fun o ho => by rw [alt_b (by omega), if_neg (fun z => hx ⟨o, ho, z⟩)]
          rw [this]
          exact (gpa_r 6).1
      show max (alm b f n) (sm (alt b f ((n : Int) - 1)) 6) ≤ _
      omega
  have := le1 6 (by omega)
  have := le2 5 (by omega)
  omega
section SPKA
variable {X : List Int32} {d : Nat} {s : m_St} {P : Option Value → m_St → Prop} {i r b c : Int}
theorem sp_barred (ri : inR i) (rr : inR r) (h00 : 0 ≤ s 83 0) (h06 : s 83 0 ≤ 6) (hr : ∀ r, 0 ≤ r → r < 6 → rwM s r) (kk : ∀ v s', qBa s i r v s' → P (some (vI v)) s') : Cl X (d + 2) 234 [vR 77, vI i, vI r] s P := by
  by_cases hb : 0 ≤ i ∧ i < s 83 0 ∧ 0 ≤ r ∧ r < 6
  · obtain ⟨i0, i1, r0, r6⟩ := hb
    obtain ⟨w1, w2, w3⟩ := hr r r0 r6
    apply t_X6_barred <;> intros
    all_goals first | omega | exact ri | exact rr | skip
    · next g1 g2 g3 g4 g5 g6 =>
      have loop : ∀ (m : Nat) (b k : Int) (z5 : Option Value), 0 ≤ k → k % 3 = 0 → k + 3 * m = s 78 r → ((b = 1 ∧ ∀ x, 0 ≤ x → x < k → x % 3 = 0 → (0 ≤ s 79 (40 * r + x) ∧ s 79 (40 * r + x) < 4) ∧ (0 ≤ s 79 (40 * r + x + 1) ∧ s 79 (40 * r + x + 1) ≤ 20) ∧ 9 ≤ s 79 (40 * r + x + 2) ∧ s 79 (40 * r + x + 2) ≤ 13) ∨ (b = 0 ∧ ¬ atM s r)) → Rn X (d + 2) 234 54 [some (vR 77), some (vI i), some (vI r), some (vI b), some (vI k), z5] [] s P := by
        intro m
        induction m with
        | zero =>
          intro b k z5 k0 k3 km hb
          have good : b = 1 → P (some (vI 0)) s := fun hb1 => by
            rcases hb with ⟨_, hb⟩ | ⟨hb, _⟩
            · exact kk _ _ (Or.inl ⟨rfl, rfl, i0, i1, r0, r6, by omega, by omega, fun x x0 x1 x3 => hb x x0 (by omega) x3⟩)
            · omega
          have bad : b = 0 → P (some (vI (-3))) (mfd s 3) := fun hb0 => by
            rcases hb with ⟨hb, _⟩ | ⟨_, hb⟩
            · omega
            · exact kk _ _ (Or.inr (Or.inr ⟨rfl, i0, i1, r0, r6, Or.inr (Or.inr ⟨rfl, by omega, by omega, hb⟩)⟩))
          apply t_X6_barred_54 r0 r6 k0 <;> intros
          all_goals first | omega | exact good (by omega) | exact bad (by omega)
        | succ m ih =>
          intro b k z5 k0 k3 km hb
          have a0 := w3 k k0 (by omega)
          have a1 := w3 (k + 1) (by omega) (by omega)
          have a2 := w3 (k + 2) (by omega) (by omega)
          rw [show 40 * r + (k + 1) = 40 * r + k + 1 by omega] at a1
          rw [show 40 * r + (k + 2) = 40 * r + k + 2 by omega] at a2
          have bad : (b = 0 ∨ ¬ ((0 ≤ s 79 (40 * r + k) ∧ s 79 (40 * r + k) < 4) ∧ (0 ≤ s 79 (40 * r + k + 1) ∧ s 79 (40 * r + k + 1) ≤ 20) ∧ 9 ≤ s 79 (40 * r + k + 2) ∧ s 79 (40 * r + k + 2) ≤ 13)) → ∀ z5, Rn X (d + 2) 234 54 [some (vR 77), some (vI i), some (vI r), some (vI 0), some (vI (k + 3)), z5] [] s P := fun hc z5 => by
            refine ih 0 (k + 3) z5 (by omega) (by omega) (by omega) (Or.inr ⟨rfl, fun ha => ?_⟩)
            rcases hc with hc | hc
            · rcases hb with ⟨hb, _⟩ | ⟨_, hb⟩
              · omega
              · exact hb ha
            · exact hc (ha k k0 (by omega) k3)
          have good : b = 1 → ((0 ≤ s 79 (40 * r + k) ∧ s 79 (40 * r + k) < 4) ∧ (0 ≤ s 79 (40 * r + k + 1) ∧ s 79 (40 * r + k + 1) ≤ 20) ∧ 9 ≤ s 79 (40 * r + k + 2) ∧ s 79 (40 * r + k + 2) ≤ 13) → ∀ z5, Rn X (d + 2) 234 54 [some (vR 77), some (vI i), some (vI r), some (vI 1), some (vI (k + 3)), z5] [] s P := fun hb1 hc z5 => by
            refine ih 1 (k + 3) z5 (by omega) (by omega) (by omega) (Or.inl ⟨rfl, fun x x0 x1 x3 => ?_⟩)
            rcases hb with ⟨_, hb⟩ | ⟨hb, _⟩
            · by_cases hx : x = k
              · rw [hx]; exact hc
              · exact hb x x0 (by omega) x3
            · omega
          have hbr : b = 0 ∨ b = 1 := by
            rcases hb with ⟨hb, _⟩ | ⟨hb, _⟩
            · exact Or.inr hb
            · exact Or.inl hb
          apply t_X6_barred_54 r0 r6 k0 <;> intros
          all_goals first | omega | (refine bad ?_ _; omega) | (refine good ?_ ?_ _ <;> omega)
      exact loop ((s 78 r).toNat / 3) 1 0 none (by omega) (by omega) (by omega) (Or.inl ⟨rfl, fun x x0 x1 => by omega⟩)
    · exact kk _ _ (Or.inr (Or.inr ⟨rfl, i0, i1, r0, r6, Or.inr (Or.inl ⟨rfl, by omega, by omega⟩)⟩))
    · exact kk _ _ (Or.inr (Or.inr ⟨rfl, i0, i1, r0, r6, Or.inl ⟨rfl, by omega⟩⟩))
  · apply t_X6_barred <;> intros
    all_goals first | omega | exact ri | exact rr | exact kk _ _ (Or.inr (Or.inl ⟨rfl, rfl, hb⟩))
end SPKA
