/-! what follows: the class's rounds and the reference's come to the same -/
def sub4 (a b : Int) : Prop := ∀ k : Nat, k < 4 → bt a k = true → bt b k = true
def r16 (a : Int) : Prop := 0 ≤ a ∧ a < 16
def cld (Q v : Int) : Prop := ∀ x y : Nat, x < 4 → y < 4 → bt v x = true → bt Q (4 * x + y) = true → bt v y = true
theorem sub4.rfl' {a : Int} : sub4 a a := fun _ _ h => h
theorem sub4.trans {a b c : Int} (h1 : sub4 a b) (h2 : sub4 b c) : sub4 a c := fun k hk h => h2 k hk (h1 k hk h)
theorem sub4_1 {a b : Int} {k : Nat} {q : Int} (hk : k < 4) (hq : ((2 ^ k : Nat) : Int) = q) (ha : r16 a) (hb : r16 b) (h : sub4 a b) : a / q % 2 ≤ b / q % 2 := by
  have h0 := h k hk
  rw [bt_div ha.1 ha.2 hk, bt_div hb.1 hb.2 hk, decide_eq_true_eq, decide_eq_true_eq] at h0
  obtain ⟨a0, a1⟩ := ha
  obtain ⟨b0, b1⟩ := hb
  have ea : ((a.toNat / 2 ^ k % 2 : Nat) : Int) = a / q % 2 := by
    rw [Int.natCast_emod, Int.natCast_ediv, hq, Int.toNat_of_nonneg a0]
    rfl
  have eb : ((b.toNat / 2 ^ k % 2 : Nat) : Int) = b / q % 2 := by
    rw [Int.natCast_emod, Int.natCast_ediv, hq, Int.toNat_of_nonneg b0]
    rfl
  rw [← ea, ← eb]
  have l1 := Nat.mod_lt (a.toNat / 2 ^ k) (show 0 < 2 by decide)
  revert h0 l1
  generalize a.toNat / 2 ^ k % 2 = x
  generalize b.toNat / 2 ^ k % 2 = y
  intro h0 l1
  omega
theorem sub4_le {a b : Int} (ha : r16 a) (hb : r16 b) (h : sub4 a b) : a % 2 ≤ b % 2 ∧ a / 2 % 2 ≤ b / 2 % 2 ∧ a / 4 % 2 ≤ b / 4 % 2 ∧ a / 8 % 2 ≤ b / 8 % 2 := by
  have h0 := sub4_1 (k := 0) (q := 1) (by decide) rfl ha hb h
  rw [Int.ediv_one, Int.ediv_one] at h0
  exact ⟨h0, sub4_1 (k := 1) (q := 2) (by decide) rfl ha hb h, sub4_1 (k := 2) (q := 4) (by decide) rfl ha hb h, sub4_1 (k := 3) (q := 8) (by decide) rfl ha hb h⟩
theorem bits_16 : ∀ a : Fin 16, ((a : Nat) : Int) = ((a : Nat) : Int) % 2 + 2 * (((a : Nat) : Int) / 2 % 2) + 4 * (((a : Nat) : Int) / 4 % 2) + 8 * (((a : Nat) : Int) / 8 % 2) := by decide
theorem bits_r {a : Int} : (0 ≤ a % 2 ∧ a % 2 ≤ 1) ∧ (0 ≤ a / 2 % 2 ∧ a / 2 % 2 ≤ 1) ∧ (0 ≤ a / 4 % 2 ∧ a / 4 % 2 ≤ 1) ∧ (0 ≤ a / 8 % 2 ∧ a / 8 % 2 ≤ 1) := by
  have h : ∀ x : Int, 0 ≤ x % 2 ∧ x % 2 ≤ 1 := fun x => by omega
  exact ⟨h _, h _, h _, h _⟩
theorem bits_of {a : Int} (h : r16 a) : a = a % 2 + 2 * (a / 2 % 2) + 4 * (a / 4 % 2) + 8 * (a / 8 % 2) := by
  have e : ((a.toNat : Nat) : Int) = a := Int.toNat_of_nonneg h.1
  have h2 : a.toNat < 16 := by have := h.2; omega
  have := bits_16 ⟨a.toNat, h2⟩
  rw [show (((⟨a.toNat, h2⟩ : Fin 16) : Nat) : Int) = a from e] at this
  exact this
theorem sub4_anti {a b : Int} (ha : r16 a) (hb : r16 b) (h : sub4 a b) (h' : sub4 b a) : a = b := by
  have h1 := sub4_le ha hb h
  have h2 := sub4_le hb ha h'
  rw [bits_of ha, bits_of hb]
  revert h1 h2
  generalize a % 2 = a1
  generalize b % 2 = b1
  generalize a / 2 % 2 = a2
  generalize b / 2 % 2 = b2
  generalize a / 4 % 2 = a3
  generalize b / 4 % 2 = b3
  generalize a / 8 % 2 = a4
  generalize b / 8 % 2 = b4
  omega
theorem sub4_grow {a b : Int} (ha : r16 a) (hb : r16 b) (h : sub4 a b) (hne : ¬ a = b) : bit4 a + 1 ≤ bit4 b := by
  have h1 := sub4_le ha hb h
  rw [bits_of ha, bits_of hb] at hne
  unfold bit4
  revert h1 hne
  generalize a % 2 = a1
  generalize b % 2 = b1
  generalize a / 2 % 2 = a2
  generalize b / 2 % 2 = b2
  generalize a / 4 % 2 = a3
  generalize b / 4 % 2 = b3
  generalize a / 8 % 2 = a4
  generalize b / 8 % 2 = b4
  omega
theorem bit4_full {a : Int} (ha : r16 a) (h : 4 ≤ bit4 a) : a = 15 := by
  have h1 := bits_r (a := a)
  rw [bits_of ha]
  unfold bit4 at h
  revert h1 h
  generalize a % 2 = a1
  generalize a / 2 % 2 = a2
  generalize a / 4 % 2 = a3
  generalize a / 8 % 2 = a4
  omega
theorem bit4_none {a : Int} (ha : r16 a) (h : bit4 a ≤ 0) : a = 0 := by
  have h1 := bits_r (a := a)
  rw [bits_of ha]
  unfold bit4 at h
  revert h1 h
  generalize a % 2 = a1
  generalize a / 2 % 2 = a2
  generalize a / 4 % 2 = a3
  generalize a / 8 % 2 = a4
  omega
theorem bt_15 : ∀ k : Fin 4, bt 15 k = true := by decide +kernel
theorem cld_15 {Q : Int} : cld Q 15 := fun _ y _ hy _ _ => bt_15 ⟨y, hy⟩
theorem cld_0 {Q : Int} : cld Q 0 := fun x y _ _ h _ => by rw [bt_0] at h; cases h
/-- steps one after another -/
def fo (g : Nat → Int → Int) (u : Int) : Nat → Int
  | 0 => u
  | n + 1 => g n (fo g u n)
def stok (Q : Int) (g : Nat → Int → Int) (m : Nat) : Prop := ∀ n, n < m → ∀ u, r16 u → r16 (g n u) ∧ sub4 u (g n u) ∧ ∀ v, r16 v → cld Q v → sub4 u v → sub4 (g n u) v
theorem fo_ok {Q : Int} {g : Nat → Int → Int} {m : Nat} (h : stok Q g m) {u : Int} (hu : r16 u) : ∀ n, n ≤ m → r16 (fo g u n) ∧ sub4 u (fo g u n) ∧ ∀ v, r16 v → cld Q v → sub4 u v → sub4 (fo g u n) v := by
  intro n
  induction n with
  | zero => exact fun _ => ⟨hu, sub4.rfl', fun v _ _ hv => hv⟩
  | succ n ih =>
    intro hn
    obtain ⟨i1, i2, i3⟩ := ih (by omega)
    obtain ⟨h1, h2, h3⟩ := h n (by omega) _ i1
    exact ⟨h1, i2.trans h2, fun v hv1 hv2 hv3 => h3 v hv1 hv2 (i3 v hv1 hv2 hv3)⟩
theorem fo_up {Q : Int} {g : Nat → Int → Int} {m : Nat} (h : stok Q g m) {u : Int} (hu : r16 u) : ∀ k n, n + k ≤ m → sub4 (fo g u n) (fo g u (n + k)) := by
  intro k
  induction k with
  | zero => exact fun n _ => sub4.rfl'
  | succ k ih =>
    intro n hn
    exact (ih n (by omega)).trans (h (n + k) (by omega) _ (fo_ok h hu (n + k) (by omega)).1).2.1
theorem fo_fix {Q : Int} {g : Nat → Int → Int} {m : Nat} (h : stok Q g m) {u : Int} (hu : r16 u) (hf : fo g u m = u) : ∀ n, n < m → g n u = u := by
  intro n hn
  have e : ∀ k, k ≤ m → fo g u k = u := fun k hk => by
    have o := fo_ok h hu k hk
    have up := fo_up h hu (m - k) k (by omega)
    rw [show k + (m - k) = m by omega, hf] at up
    exact sub4_anti o.1 hu up o.2.1
  have e1 : fo g u (n + 1) = u := e (n + 1) (by omega)
  have e2 : fo g u (n + 1) = g n (fo g u n) := rfl
  rw [e2, e n (by omega)] at e1
  exact e1
/-- a round: grows, stays below all closed, and what it doesn't change is closed -/
def rok4 (Q : Int) (F : Int → Int) : Prop := ∀ u, r16 u → r16 (F u) ∧ sub4 u (F u) ∧ (∀ v, r16 v → cld Q v → sub4 u v → sub4 (F u) v) ∧ (F u = u → cld Q u)
def lst (Q u w : Int) : Prop := r16 w ∧ sub4 u w ∧ cld Q w ∧ ∀ v, r16 v → cld Q v → sub4 u v → sub4 w v
theorem lst_one {Q u w w' : Int} (h : lst Q u w) (h' : lst Q u w') : w = w' := sub4_anti h.1 h'.1 (h.2.2.2 w' h'.1 h'.2.2.1 h'.2.1) (h'.2.2.2 w h.1 h.2.2.1 h.2.1)
theorem rok_cld {Q : Int} {F : Int → Int} (h : rok4 Q F) {u : Int} (hu : r16 u) (hc : cld Q u) : F u = u := by
  obtain ⟨h1, h2, h3, _⟩ := h u hu
  exact (sub4_anti hu h1 h2 (h3 u hu hc sub4.rfl')).symm
theorem rok_3 {Q : Int} {F : Int → Int} (h : rok4 Q F) {u : Int} (hu : r16 u) : lst Q u (F (F (F u))) := by
  obtain ⟨a1, a2, a3, a4⟩ := h u hu
  obtain ⟨b1, b2, b3, b4⟩ := h _ a1
  obtain ⟨c1, c2, c3, c4⟩ := h _ b1
  refine ⟨c1, (a2.trans b2).trans c2, ?_, fun v h1 h2 h3 => c3 v h1 h2 (b3 v h1 h2 (a3 v h1 h2 h3))⟩
  by_cases e1 : F u = u
  · rw [e1, e1, e1]; exact a4 e1
  · by_cases e2 : F (F u) = F u
    · rw [e2, e2]; exact b4 e2
    · by_cases e3 : F (F (F u)) = F (F u)
      · rw [e3]; exact c4 e3
      · have g1 := sub4_grow hu a1 a2 (fun z => e1 z.symm)
        have g2 := sub4_grow a1 b1 b2 (fun z => e2 z.symm)
        have g3 := sub4_grow b1 c1 c2 (fun z => e3 z.symm)
        by_cases hu0 : u = 0
        · exfalso
          rw [hu0] at e1
          exact e1 (rok_cld h ⟨by omega, by omega⟩ cld_0)
        · have : ¬ bit4 u ≤ 0 := fun z => hu0 (bit4_none hu z)
          rw [bit4_full c1 (by omega)]
          exact cld_15
theorem rok_4 {Q : Int} {F : Int → Int} (h : rok4 Q F) {u : Int} (hu : r16 u) : F (F (F (F u))) = F (F (F u)) := rok_cld h (rok_3 h hu).1 (rok_3 h hu).2.2.1
theorem fo_rok {Q : Int} {g : Nat → Int → Int} {m : Nat} (h : stok Q g m) (hc : ∀ u, r16 u → (∀ n, n < m → g n u = u) → cld Q u) : rok4 Q (fun u => fo g u m) := fun u hu => by
  obtain ⟨h1, h2, h3⟩ := fo_ok h hu m (by omega)
  exact ⟨h1, h2, h3, fun e => hc u hu (fo_fix h hu e)⟩
theorem or_r16 : ∀ a : Fin 16, ∀ i : Fin 4, 0 ≤ iOr ((a : Nat) : Int) (iShl 1 ((i : Nat) : Int)) ∧ iOr ((a : Nat) : Int) (iShl 1 ((i : Nat) : Int)) < 16 := by decide +kernel
theorem r16_or {u i : Int} (hu : r16 u) (i0 : 0 ≤ i) (i4 : i < 4) : r16 (iOr u (iShl 1 i)) := by
  obtain ⟨u0, u1⟩ := hu
  have e : ((u.toNat : Nat) : Int) = u := by omega
  have e2 : ((i.toNat : Nat) : Int) = i := by omega
  have := or_r16 ⟨u.toNat, by omega⟩ ⟨i.toNat, by omega⟩
  rw [show (((⟨u.toNat, by omega⟩ : Fin 16) : Nat) : Int) = u from e, show (((⟨i.toNat, by omega⟩ : Fin 4) : Nat) : Int) = i from e2] at this
  exact this
theorem or_bit {u i : Int} (i0 : 0 ≤ i) (i4 : i < 4) {k : Nat} (hk : k < 4) : bt (iOr u (iShl 1 i)) k = true ↔ bt u k = true ∨ i = k := by
  rw [bt_or, bt_shl i0 (by omega) (by omega)]
  cases bt u k <;> simp
/-- one more claim, if something holds -/
theorem step_ok {Q u i : Int} (hu : r16 u) (i0 : 0 ≤ i) (i4 : i < 4) (hw : ∃ x : Nat, x < 4 ∧ bt u x = true ∧ bt Q (4 * x + i.toNat) = true) : r16 (iOr u (iShl 1 i)) ∧ sub4 u (iOr u (iShl 1 i)) ∧ ∀ v, r16 v → cld Q v → sub4 u v → sub4 (iOr u (iShl 1 i)) v := by
  refine ⟨r16_or hu i0 i4, fun k hk h => (or_bit i0 i4 hk).mpr (Or.inl h), fun v _ hc hs k hk h => ?_⟩
  rcases (or_bit i0 i4 hk).mp h with h | h
  · exact hs k hk h
  · obtain ⟨x, x4, hx, hq⟩ := hw
    have : i.toNat = k := by omega
    rw [this] at hq
    exact hc x k x4 hk (hs x x4 hx) hq
theorem step_no {Q u : Int} (hu : r16 u) : r16 u ∧ sub4 u u ∧ ∀ v, r16 v → cld Q v → sub4 u v → sub4 u v := ⟨hu, sub4.rfl', fun _ _ _ h => h⟩
theorem cl1_iff {R Q u i : Int} (ht : tr R Q) (hu : r16 u) (i0 : 0 ≤ i) (i4 : i < 4) : iAnd (iAnd (iShr R (4 * i)) u) 15 = 0 ↔ ¬ ∃ x : Nat, x < 4 ∧ bt u x = true ∧ bt Q (4 * x + i.toNat) = true := by
  rw [and_0]
  constructor
  · intro hh ⟨x, x4, hx, hq⟩
    refine hh x (by omega) ⟨?_, bt_15 ⟨x, x4⟩⟩
    rw [bt_and, bt_shr (by omega) (by omega), hx, show (4 * i).toNat + x = 4 * i.toNat + x by omega, (ht.2.2.1 i.toNat x (by omega) x4).1, hq]
    rfl
  · intro hh k hk ⟨h1, h2⟩
    by_cases k4 : k < 4
    · rw [bt_and, bt_shr (by omega) (by omega), show (4 * i).toNat + k = 4 * i.toNat + k by omega, (ht.2.2.1 i.toNat k (by omega) k4).1, Bool.and_eq_true] at h1
      exact hh ⟨k, k4, h1.2, h1.1⟩
    · rw [bt_lt (by omega) (by omega) (by omega)] at h2
      cases h2
theorem clr_rok {R Q : Int} (ht : tr R Q) : rok4 Q (clr R) := by
  have h : stok Q (fun n u => cl1 R u n) 4 := by
    intro n hn u hu
    show r16 (cl1 R u n) ∧ sub4 u (cl1 R u n) ∧ ∀ v, r16 v → cld Q v → sub4 u v → sub4 (cl1 R u n) v
    have hi := cl1_iff ht hu (i := n) (by omega) (by omega)
    unfold cl1
    by_cases hc : iAnd (iAnd (iShr R (4 * (n : Int))) u) 15 = 0
    · rw [if_pos hc]; exact step_no hu
    · rw [if_neg hc]
      exact step_ok hu (by omega) (by omega) (Classical.byContradiction fun z => hc (hi.mpr z))
  have := fo_rok h (fun u hu hf x y x4 y4 hx hq => by
    have e : cl1 R u y = u := hf y y4
    have hi := cl1_iff ht hu (i := y) (by omega) (by omega)
    unfold cl1 at e
    rw [if_neg (fun z => hi.mp z ⟨x, x4, hx, hq⟩)] at e
    rw [← e]
    exact (or_bit (by omega) (by omega) y4).mpr (Or.inr rfl))
  exact this
def cs1 (Q : Int) (n : Nat) (a : Int) : Int := if bt Q n = true ∧ bt a (n / 4) = true then iOr a (iShl 1 ((n % 4 : Nat) : Int)) else a
def csr (Q a : Int) : Int := fo (cs1 Q) a 16
theorem csr_stok {Q : Int} : stok Q (cs1 Q) 16 := by
  intro n hn u hu
  unfold cs1
  by_cases hc : bt Q n = true ∧ bt u (n / 4) = true
  · rw [if_pos hc]
    refine step_ok hu (by omega) (by omega) ⟨n / 4, by omega, hc.2, ?_⟩
    rw [show 4 * (n / 4) + ((n % 4 : Nat) : Int).toNat = n by omega]
    exact hc.1
  · rw [if_neg hc]; exact step_no hu
theorem csr_rok {Q : Int} : rok4 Q (csr Q) := fo_rok csr_stok (fun u hu hf x y x4 y4 hx hq => by
  have e := hf (4 * x + y) (by omega)
  unfold cs1 at e
  rw [show (4 * x + y) / 4 = x by omega, show (4 * x + y) % 4 = y by omega, if_pos ⟨hq, hx⟩] at e
  rw [← e]
  exact (or_bit (by omega) (by omega) y4).mpr (Or.inr rfl))
def cit (Q u : Int) : Nat → Int
  | 0 => u
  | n + 1 => csr Q (cit Q u n)
theorem cit_r {Q u : Int} (hu : r16 u) : ∀ n, r16 (cit Q u n) := by
  intro n
  induction n with
  | zero => exact hu
  | succ n ih => exact (csr_rok _ ih).1
theorem clo_cit {R Q u : Int} (ht : tr R Q) (hu : r16 u) : clo R u = cit Q u 4 := by
  have h1 := rok_3 (clr_rok ht) hu
  have h2 := rok_3 (csr_rok (Q := Q)) hu
  have h3 := rok_4 (csr_rok (Q := Q)) hu
  show clr R (clr R (clr R u)) = csr Q (csr Q (csr Q (csr Q u)))
  rw [h3]
  exact lst_one h1 h2
theorem clo_r {R Q u : Int} (ht : tr R Q) (hu : r16 u) : r16 (clo R u) := (rok_3 (clr_rok ht) hu).1
theorem or_0 {a : Int} (ha : inR a) : iOr a 0 = a := by
  apply bt_ext (inR_iOr _ _) ha
  intro k hk
  rw [bt_or, bt_0, Bool.or_false]
section SPCL
variable {X : List Int32} {d : Nat} {s : m_St} {P : Option Value → m_St → Prop} {z : Int}
theorem sp_closedM {R : Int} (ht : tr R (s 83 7)) (hz : r16 z) (kk : P (some (vI (clo R z))) s) : Cl X (d + 1) 196 [vR 77, vI z] s P := by
  rw [clo_cit ht hz] at kk
  apply t_X6_closed
  have loop : ∀ (m : Nat) (n : Int) (z4 : Option Value), 0 ≤ n → n + m = 4 → Rn X (d + 1) 196 4 [some (vR 77), some (vI z), some (vI (cit (s 83 7) z n.toNat)), some (vI n), z4] [] s P := by
    intro m
    induction m with
    | zero =>
      intro n z4 n0 nm
      have : n = 4 := by omega
      subst this
      apply t_X6_closed_4 <;> intros
      all_goals first | omega | exact kk
    | succ m ih =>
      intro n z4 n0 nm
      have hr := cit_r (Q := s 83 7) hz n.toNat
      apply t_X6_closed_4 <;> intros
      all_goals first | omega | skip
      have loop2 : ∀ (m2 : Nat) (i : Int), 0 ≤ i → i + m2 = 16 → Rn X (d + 1) 196 12 [some (vR 77), some (vI z), some (vI (fo (cs1 (s 83 7)) (cit (s 83 7) z n.toNat) i.toNat)), some (vI n), some (vI i)] [] s P := by
        intro m2
        induction m2 with
        | zero =>
          intro i i0 im
          have : i = 16 := by omega
          subst this
          have hx := ih (n + 1) (some (vI 16)) (by omega) (by omega)
          rw [show (n + 1).toNat = n.toNat + 1 by omega] at hx
          apply t_X6_closed_12 i0 <;> intros
          all_goals first | exact hx | omega
        | succ m2 ih2 =>
          intro i i0 im
          have o := (fo_ok (csr_stok (Q := s 83 7)) hr i.toNat (by omega)).1
          have ho : inR (fo (cs1 (s 83 7)) (cit (s 83 7) z n.toNat) i.toNat) := by obtain ⟨o1, o2⟩ := o; omega
          have up : fo (cs1 (s 83 7)) (cit (s 83 7) z n.toNat) (i + 1).toNat = cs1 (s 83 7) i.toNat (fo (cs1 (s 83 7)) (cit (s 83 7) z n.toNat) i.toNat) := by
            rw [show (i + 1).toNat = i.toNat + 1 by omega]
            rfl
          have hx := ih2 (i + 1) (by omega) (by omega)
          rw [up] at hx
          have bq := bit_1 (a := s 83 7) i0 (by omega)
          have ba := bit_1 (a := fo (cs1 (s 83 7)) (cit (s 83 7) z n.toNat) i.toNat) (j := i / 4) (by omega) (by omega)
          rw [show (i / 4).toNat = i.toNat / 4 by omega] at ba
          apply t_X6_closed_12 i0 <;> intros
          all_goals first | omega | exact ho | skip
          · next g1 g2 =>
            unfold cs1 at hx
            rw [if_neg (fun q => g2 (bq.mpr q.1))] at hx
            rw [or_0 ho]
            exact hx
          · next g1 g2 g3 =>
            unfold cs1 at hx
            rw [if_neg (fun q => g3 (ba.mpr q.2))] at hx
            rw [or_0 ho]
            exact hx
          · next g1 g2 g3 =>
            unfold cs1 at hx
            rw [if_pos ⟨bq.mp g2, ba.mp g3⟩, show ((i.toNat % 4 : Nat) : Int) = i % 4 by omega] at hx
            exact hx
      exact loop2 16 0 (by omega) (by omega)
  exact loop 4 0 none (by omega) (by omega)
end SPCL
