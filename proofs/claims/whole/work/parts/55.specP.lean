/-! what keeps a talk, or triples, from being read; who fits; the greatest divisor -/
def fnd (s : m_St) (f : Int) : m_St := m_upd (m_upd s 0 8 f) 76 f (s 76 f + 1)
/-- a row in order -/
def rwk (s : m_St) (r : Int) : Prop := -1 ≤ s 2 r ∧ s 2 r ≤ 40 ∧ ∀ j, 0 ≤ j → j < s 2 r → inR (s (4 + r) j)
def asy (s : m_St) (r : Int) : Prop := ∀ j, 0 ≤ j → j < s 2 r → 0 ≤ s (4 + r) j ∧ s (4 + r) j < 8
def qTr (s : m_St) (r l v : Int) (s' : m_St) : Prop :=
  (v = 0 ∧ s' = s ∧ 0 ≤ r ∧ r < 6 ∧ ¬ s 38 7 = -1 ∧ 0 ≤ s 2 r ∧ s 2 r ≤ l ∧ asy s r) ∨ (v = -1 ∧ s' = s ∧ ¬ (0 ≤ r ∧ r < 6)) ∨ (v = -4 ∧ s' = s ∧ 0 ≤ r ∧ r < 6 ∧ s 38 7 = -1) ∨
  (v = -3 ∧ 0 ≤ r ∧ r < 6 ∧ ¬ s 38 7 = -1 ∧ ((s' = fnd s 1 ∧ s 2 r = -1) ∨ (s' = fnd s 5 ∧ 0 ≤ s 2 r ∧ l < s 2 r) ∨ (s' = fnd s 3 ∧ 0 ≤ s 2 r ∧ s 2 r ≤ l ∧ ¬ asy s r)))
/-- triples that can be read -/
def atr (s : m_St) (r : Int) : Prop := ∀ j, 0 ≤ j → j < s 2 r → j % 3 = 0 → (0 ≤ s (4 + r) j ∧ s (4 + r) j < 4) ∧ (0 ≤ s (4 + r) (j + 1) ∧ s (4 + r) (j + 1) ≤ 20) ∧ 9 ≤ s (4 + r) (j + 2) ∧ s (4 + r) (j + 2) ≤ 13
def qTp (s : m_St) (i r v : Int) (s' : m_St) : Prop :=
  (v = 0 ∧ s' = s ∧ 0 ≤ i ∧ i < s 38 3 ∧ 0 ≤ r ∧ r < 6 ∧ 0 ≤ s 2 r ∧ s 2 r % 3 = 0 ∧ atr s r) ∨ (v = -1 ∧ s' = s ∧ ¬ (0 ≤ i ∧ i < s 38 3 ∧ 0 ≤ r ∧ r < 6)) ∨
  (v = -3 ∧ 0 ≤ i ∧ i < s 38 3 ∧ 0 ≤ r ∧ r < 6 ∧ ((s' = fnd s 1 ∧ s 2 r = -1) ∨ (s' = fnd s 5 ∧ 0 ≤ s 2 r ∧ ¬ s 2 r % 3 = 0) ∨ (s' = fnd s 3 ∧ 0 ≤ s 2 r ∧ s 2 r % 3 = 0 ∧ ¬ atr s r)))
noncomputable def pb (p : Prop) : Int := @ite Int p (Classical.propDecidable p) 1 0
theorem pb_t {p : Prop} (h : p) : pb p = 1 := @if_pos p (Classical.propDecidable p) h Int 1 0
theorem pb_f {p : Prop} (h : ¬ p) : pb p = 0 := @if_neg p (Classical.propDecidable p) h Int 1 0
theorem pb_r (p : Prop) : pb p = 0 ∨ pb p = 1 := by
  rcases Classical.em p with h | h
  · exact Or.inr (pb_t h)
  · exact Or.inl (pb_f h)
theorem inR_pb (p : Prop) : inR (pb p) := by have := pb_r p; omega
theorem pb_iff {p q : Prop} (h : p ↔ q) : pb p = pb q := by rw [propext h]
/-- one of a kind, with the claim so weighed, would be so moved -/
def fitp (s : m_St) (i r k j : Int) : Prop := mv k (hset (fun c => if c = s (4 + r) j then s (4 + r) (j + 1) else s (44 + 4 * i + 1) c) (hf k)) (s 38 5) (s (4 + r) j) + 10 = s (4 + r) (j + 2)
def fiA (s : m_St) (i r k : Int) : Prop := ∀ j, 0 ≤ j → j < s 2 r → j % 3 = 0 → fitp s i r k j
def fr74 (s s' : m_St) : Prop := ∀ c j, ¬ (74 ≤ c ∧ c ≤ 75) → s' c j = s c j
theorem fr74.rfl' {s : m_St} : fr74 s s := fun _ _ _ => rfl
theorem fr74.trans {a b c : m_St} (h1 : fr74 a b) (h2 : fr74 b c) : fr74 a c := fun x j hx => by rw [h2 x j hx, h1 x j hx]
section SPP
variable {X : List Int32} {d : Nat} {s : m_St} {P : Option Value → m_St → Prop} {r l i k : Int}
theorem sp_talkRefusal (rr : inR r) (rl : inR l) (r7 : inR (s 38 7)) (hr : ∀ r, 0 ≤ r → r < 6 → rwk s r) (kk : ∀ v s', qTr s r l v s' → P (some (vI v)) s') : Cl X (d + 5) 107 [vR 0, vI r, vI l] s P := by
  have hw := hr r
  unfold rwk at hw
  apply t_X5_talkRefusal <;> intros
  all_goals first | omega | exact r7 | exact rr | exact rl | skip
  · exact kk _ _ (Or.inr (Or.inl ⟨rfl, rfl, by omega⟩))
  · exact kk _ _ (Or.inr (Or.inl ⟨rfl, rfl, by omega⟩))
  · exact kk _ _ (Or.inr (Or.inr (Or.inl ⟨rfl, rfl, by omega, by omega, by assumption⟩)))
  · exact kk _ _ (Or.inr (Or.inr (Or.inr ⟨rfl, by omega, by omega, by assumption, Or.inl ⟨rfl, by assumption⟩⟩)))
  · next g1 g2 g3 g4 g5 =>
    obtain ⟨w1, w2, w3⟩ := hw g1 g2
    have loop : ∀ (m : Nat) (i : Int), 0 ≤ i → i + m = s 2 r → (∀ j, 0 ≤ j → j < i → 0 ≤ s (4 + r) j ∧ s (4 + r) j < 8) → Rn X (d + 5) 107 63 [some (vR 0), some (vI r), some (vI l), some (vI i)] [] s P := by
      intro m
      induction m with
      | zero =>
        intro i i0 im hall
        apply t_X5_talkRefusal_63 i0 g1 g2 <;> intros
        all_goals first | omega | skip
        exact kk _ _ (Or.inl ⟨rfl, rfl, g1, g2, g3, by omega, by omega, fun j j0 j1 => hall j j0 (by omega)⟩)
      | succ m ih =>
        intro i i0 im hall
        have := w3 i i0 (by omega)
        have bad : ¬ (0 ≤ s (4 + r) i ∧ s (4 + r) i < 8) → P (some (vI (-3))) (fnd s 3) := fun hb => kk _ _ (Or.inr (Or.inr (Or.inr ⟨rfl, g1, g2, g3, Or.inr (Or.inr ⟨rfl, by omega, by omega, fun z => hb (z i i0 (by omega))⟩)⟩)))
        apply t_X5_talkRefusal_63 i0 g1 g2 <;> intros
        all_goals first | omega | skip
        · exact bad (by omega)
        · exact bad (by omega)
        · refine ih (i + 1) (by omega) (by omega) (fun j j0 j1 => ?_)
          by_cases hj : j = i
          · subst hj; omega
          · exact hall j j0 (by omega)
    exact loop (s 2 r).toNat 0 (by omega) (by omega) (fun j j0 j1 => by omega)
  · next g1 g2 g3 g4 g5 =>
    have := hw g1 g2
    exact kk _ _ (Or.inr (Or.inr (Or.inr ⟨rfl, g1, g2, g3, Or.inr (Or.inl ⟨rfl, by omega, g5⟩)⟩)))
theorem sp_triplesRefusal (ri : inR i) (rr : inR r) (r7 : inR (s 38 3)) (hr : ∀ r, 0 ≤ r → r < 6 → rwk s r) (kk : ∀ v s', qTp s i r v s' → P (some (vI v)) s') : Cl X (d + 5) 126 [vR 0, vI i, vI r] s P := by
  have hw := hr r
  unfold rwk at hw
  apply t_X5_triplesRefusal <;> intros
  all_goals first | omega | exact r7 | exact rr | exact ri | skip
  all_goals first | (exact kk _ _ (Or.inr (Or.inl ⟨rfl, rfl, by omega⟩))) | skip
  · exact kk _ _ (Or.inr (Or.inr ⟨rfl, by omega, by omega, by omega, by omega, Or.inl ⟨rfl, by assumption⟩⟩))
  · next g1 g2 g3 g4 g5 g6 =>
    obtain ⟨w1, w2, w3⟩ := hw g3 g4
    have loop : ∀ (m : Nat) (j : Int) (z4 z5 : Option Value), 0 ≤ j → j % 3 = 0 → j + 3 * m = s 2 r → (∀ x, 0 ≤ x → x < j → x % 3 = 0 → (0 ≤ s (4 + r) x ∧ s (4 + r) x < 4) ∧ (0 ≤ s (4 + r) (x + 1) ∧ s (4 + r) (x + 1) ≤ 20) ∧ 9 ≤ s (4 + r) (x + 2) ∧ s (4 + r) (x + 2) ≤ 13) → Rn X (d + 5) 126 62 [some (vR 0), some (vI i), some (vI r), some (vI j), z4, z5] [] s P := by
      intro m
      induction m with
      | zero =>
        intro j z4 z5 j0 j3 jm hall
        apply t_X5_triplesRefusal_62 j0 g3 g4 <;> intros
        all_goals first | omega | skip
        exact kk _ _ (Or.inl ⟨rfl, rfl, g1, g2, g3, g4, by omega, g6, fun x x0 x1 x3 => hall x x0 (by omega) x3⟩)
      | succ m ih =>
        intro j z4 z5 j0 j3 jm hall
        have a0 := w3 j j0 (by omega)
        have a1 := w3 (j + 1) (by omega) (by omega)
        have a2 := w3 (j + 2) (by omega) (by omega)
        have bad : ¬ ((0 ≤ s (4 + r) j ∧ s (4 + r) j < 4) ∧ (0 ≤ s (4 + r) (j + 1) ∧ s (4 + r) (j + 1) ≤ 20) ∧ 9 ≤ s (4 + r) (j + 2) ∧ s (4 + r) (j + 2) ≤ 13) → P (some (vI (-3))) (fnd s 3) := fun hb => kk _ _ (Or.inr (Or.inr ⟨rfl, g1, g2, g3, g4, Or.inr (Or.inr ⟨rfl, by omega, g6, fun z => hb (z j j0 (by omega) j3)⟩)⟩))
        apply t_X5_triplesRefusal_62 j0 g3 g4 <;> intros
        all_goals first | omega | (exact bad (by omega)) | skip
        refine ih (j + 3) _ _ (by omega) (by omega) (by omega) (fun x x0 x1 x3 => ?_)
        by_cases hj : x = j
        · subst hj; omega
        · exact hall x x0 (by omega) x3
    exact loop ((s 2 r).toNat / 3) 0 none none (by omega) (by omega) (by omega) (fun j j0 j1 => by omega)
  · next g1 g2 g3 g4 g5 g6 =>
    have := hw g3 g4
    exact kk _ _ (Or.inr (Or.inr ⟨rfl, g1, g2, g3, g4, Or.inr (Or.inl ⟨rfl, by omega, g6⟩)⟩))
theorem sp_fitsAll (h0 : 0 ≤ r) (h6 : r < 6) (i0 : 0 ≤ i) (i6 : i < 6) (k0 : 0 ≤ k) (k6 : k < 6) (kg : gok s (44 + 4 * i)) (hr : rwk s r) (hz : 0 ≤ s 2 r) (h3 : s 2 r % 3 = 0) (ha : atr s r) (kk : ∀ s', fr74 s s' → P (some (vI (pb (fiA s i r k)))) s') : Cl X (d + 5) 128 [vR 0, vI i, vI r, vI k] s P := by
  obtain ⟨w1, w2, w3⟩ := hr
  refine t_X5_fitsAll h0 h6 i0 i6 ?_
  have loop : ∀ (m : Nat) (j : Int) (z5 : Option Value) (s1 : m_St), 0 ≤ j → j % 3 = 0 → j + 3 * m = s 2 r → fr74 s s1 → (∀ x, 0 ≤ x → x < j → x % 3 = 0 → fitp s i r k x) → Rn X (d + 5) 128 3 [some (vR 0), some (vI i), some (vI r), some (vI k), some (vI j), z5] [] s1 P := by
    intro m
    induction m with
    | zero =>
      intro j z5 s1 j0 j3 jm hfr0 hall
      have e2 : s1 2 r = s 2 r := hfr0 _ _ (by omega)
      have hp := kk s1 hfr0
      have hall' : fiA s i r k := fun x x0 x1 x3 => hall x x0 (by omega) x3
      rw [pb_t hall'] at hp
      apply t_X5_fitsAll_3 h0 h6 i0 i6 j0 <;> intros
      all_goals first | omega | exact hp
    | succ m ih =>
      intro j z5 s1 j0 j3 jm hfr0 hall
      obtain ⟨⟨c0, c4⟩, ⟨v0, v20⟩, t9, t13⟩ := ha j j0 (by omega) j3
      have e2 : s1 2 r = s 2 r := hfr0 _ _ (by omega)
      have e38 : s1 38 5 = s 38 5 := hfr0 _ _ (by omega)
      have er : ∀ x, s1 (4 + r) x = s (4 + r) x := fun x => hfr0 _ _ (by omega)
      have eg : ∀ x, s1 (44 + 4 * i + 1) x = s (44 + 4 * i + 1) x := fun x => hfr0 _ _ (by omega)
      have kg1 : gok s1 (44 + 4 * i) := gok_cong (fun x => hfr0 _ _ (by omega)) (fun x => hfr0 _ _ (by omega)) kg
      have lo : ∀ c x, ¬ c = 74 → ¬ c = 75 → lk s1 74 (44 + 4 * i) k c x = s1 c x := fun c x q1 q2 => lk_o q1 (by omega)
      have gk : gok (lk s1 74 (44 + 4 * i) k) 74 := gok_lk k0 k6 kg1.2.2.2
      have x2 := lo 2 r (by omega) (by omega)
      have x4 := fun x => lo (4 + r) x (by omega) (by omega)
      have x4a := x4 (j + 1)
      have er0 := er j
      have er1 := er (j + 1)
      have er2 := er (j + 2)
      have wo : ∀ c x (v : Int), ¬ c = 74 → ¬ c = 75 → wg (lk s1 74 (44 + 4 * i) k) 74 (s1 (4 + r) j) v c x = s1 c x := fun c x v q1 q2 => by rw [wg_o q1 (by omega), lo c x q1 q2]
      have y2 := fun v => wo 2 r v (by omega) (by omega)
      have y4 := fun v => wo (4 + r) (j + 2) v (by omega) (by omega)
      have y38 := fun v => wo 38 5 v (by omega) (by omega)
      have yk : ∀ v, wg (lk s1 74 (44 + 4 * i) k) 74 (s1 (4 + r) j) v 74 1 = k := fun v => by rw [wg_1, lk_1]
      have yh : ∀ v, cl v = v → wg (lk s1 74 (44 + 4 * i) k) 74 (s1 (4 + r) j) v 74 2 = hset (fun c => if c = s (4 + r) j then v else s (44 + 4 * i + 1) c) (hf k) := fun v hv => by
        rw [wg_2, lk_1, hv]
        refine hset_cong fun c c0 c1 => ?_
        unfold m_upd
        rw [er0]
        by_cases hc : c = s (4 + r) j
        · rw [if_pos ⟨rfl, hc⟩, if_pos hc]
        · rw [if_neg (fun z => hc z.2), if_neg hc, lk_w c0 c1]
          exact eg c
      have hcl : cl (lk s1 74 (44 + 4 * i) k (4 + r) (j + 1)) = lk s1 74 (44 + 4 * i) k (4 + r) (j + 1) := by unfold cl; omega
      have hval : lk s1 74 (44 + 4 * i) k (4 + r) (j + 1) = s (4 + r) (j + 1) := by rw [x4a, er1]
      have hfr : ∀ v, fr74 s (wg (lk s1 74 (44 + 4 * i) k) 74 (s1 (4 + r) j) v) := fun v c x hc => by rw [wo c x v (by omega) (by omega)]; exact hfr0 c x hc
      have hmv := mv_r k (hset (fun c => if c = s (4 + r) j then s (4 + r) (j + 1) else s (44 + 4 * i + 1) c) (hf k)) (s 38 5) (s (4 + r) j)
      have key : mv (wg (lk s1 74 (44 + 4 * i) k) 74 (s1 (4 + r) j) (lk s1 74 (44 + 4 * i) k (4 + r) (j + 1)) 74 1) (wg (lk s1 74 (44 + 4 * i) k) 74 (s1 (4 + r) j) (lk s1 74 (44 + 4 * i) k (4 + r) (j + 1)) 74 2) (wg (lk s1 74 (44 + 4 * i) k) 74 (s1 (4 + r) j) (lk s1 74 (44 + 4 * i) k (4 + r) (j + 1)) 38 5) (s1 (4 + r) j) = mv k (hset (fun c => if c = s (4 + r) j then s (4 + r) (j + 1) else s (44 + 4 * i + 1) c) (hf k)) (s 38 5) (s (4 + r) j) := by
        rw [yk, yh _ hcl, y38, e38, er0, hval]
      have yk1 := yk (lk s1 74 (44 + 4 * i) k (4 + r) (j + 1))
      have y2' := y2 (lk s1 74 (44 + 4 * i) k (4 + r) (j + 1))
      have y4' := y4 (lk s1 74 (44 + 4 * i) k (4 + r) (j + 1))
      apply t_X5_fitsAll_3 h0 h6 i0 i6 j0 <;> intros
      all_goals first | omega | exact kg1.wr | exact gk | skip
      · next g1 g2 =>
        have hfit : fitp s i r k j := by
          show _ + 10 = _
          rw [← key, g2, y4', er2]
        refine ih (j + 3) _ _ (by omega) (by omega) (by omega) (hfr _) (fun x x0 x1 x3 => ?_)
        by_cases hx : x = j
        · rw [hx]; exact hfit
        · exact hall x x0 (by omega) x3
      · next g1 g2 =>
        have hnf : ¬ fitp s i r k j := fun z => g2 (by
          have z1 : mv k _ _ _ + 10 = s (4 + r) (j + 2) := z
          rw [key, z1, y4', er2])
        have hp := kk _ (hfr (lk s1 74 (44 + 4 * i) k (4 + r) (j + 1)))
        have hna : ¬ fiA s i r k := fun z => hnf (z j j0 (by omega) j3)
        rw [pb_f hna] at hp
        exact hp
  exact loop ((s 2 r).toNat / 3) 0 none s (by omega) (by omega) (by omega) fr74.rfl' (fun x x0 x1 => by omega)
theorem sp_fitsAllR (h0 : 0 ≤ r) (h6 : r < 6) (i0 : 0 ≤ i) (i6 : i < 6) (k0 : 0 ≤ k) (k6 : k < 6) (kg : gok s (44 + 4 * i)) (hr : rwk s r) (hz : 0 ≤ s 2 r) (h3 : s 2 r % 3 = 0) (ha : atr s r) (kk : ∀ (v : Int) (s' : m_St), v = pb (fiA s i r k) ∧ fr74 s s' → P (some (vI v)) s') : Cl X (d + 5) 128 [vR 0, vI i, vI r, vI k] s P := sp_fitsAll h0 h6 i0 i6 k0 k6 kg hr hz h3 ha fun s' h => kk _ s' ⟨rfl, h⟩
theorem cmpJ_0 {b : Int} (hb : inJ b) : cmpJ b 0 = 0 ↔ b = 0 := by
  have e := oJ_eq hb inJ_0
  constructor
  · intro h
    by_cases h0 : b = 0
    · exact h0
    · exfalso
      have h1 : ¬ Int64.ofInt b = Int64.ofInt 0 := fun z => h0 (e.mp z)
      unfold cmpJ lg_cmp at h
      split at h
      · exact absurd h (by decide)
      · first
          | exact absurd h (by decide)
          | (split at h; (first | exact h1 (by assumption) | exact absurd h (by decide)); (first | exact h1 (by assumption) | exact absurd h (by decide)))
  · intro h
    subst h
    decide
/-- the greatest divisor of both -/
def gd (a b : Int) : Int := ((Nat.gcd a.toNat b.toNat : Nat) : Int)
theorem gd_0 {a : Int} (h : 0 ≤ a) : gd a 0 = a := by
  unfold gd
  rw [show (0 : Int).toNat = 0 from rfl, Nat.gcd_zero_right]
  omega
theorem gd_mod {a b : Int} (h : 0 ≤ a) (hb : 0 < b) : gd b (a % b) = gd a b := by
  unfold gd
  have e : (a % b).toNat = a.toNat % b.toNat := by
    have h1 : a = (a.toNat : Int) := by omega
    have h2 : b = (b.toNat : Int) := by omega
    rw [h1, h2]
    exact congrArg Int.toNat (Int.natCast_emod a.toNat b.toNat).symm
  rw [e, Nat.gcd_comm b.toNat, ← Nat.gcd_rec, Nat.gcd_comm]
theorem sp_commonDivisor {a b : Int} (ha : 0 ≤ a) (hb : 0 ≤ b) (ja : a < 1000000000000) (jb : b < 1000000000000) (kk : P (some (vJ (gd a b))) s) : Cl X d 141 [vJ a, vJ b] s P := by
  apply t_X5_commonDivisor
  have loop : ∀ (k : Nat) (i a b : Int) (z5 : Option Value), 0 ≤ i → i + 2 * k ≤ 98 → 0 ≤ a → a < 1000000000000 → 0 ≤ b → b < 2 ^ k → b < 1000000000000 → P (some (vJ (gd a b))) s → Rn X d 141 3 [some (vJ a), none, some (vJ b), none, some (vI i), z5, none] [] s P := by
    intro k
    induction k with
    | zero =>
      intro i a b z5 i0 ik a0 a1 b0 bk b1 hp
      have hb0 : b = 0 := by
        have : (2 : Int) ^ 0 = 1 := rfl
        omega
      subst hb0
      rw [gd_0 a0] at hp
      apply t_X5_commonDivisor_3 i0 <;> intros
      all_goals first | omega | exact hp | skip
      all_goals (exfalso; exact absurd ((cmpJ_0 (b := 0) (by omega)).mpr rfl) (by assumption))
    | succ k ih =>
      intro i a b z5 i0 ik a0 a1 b0 bk b1 hp
      have hc := cmpJ_0 (b := b) (by omega)
      by_cases hb0 : b = 0
      · subst hb0
        rw [gd_0 a0] at hp
        apply t_X5_commonDivisor_3 i0 <;> intros
        all_goals first | omega | exact hp | skip
        all_goals (exfalso; exact absurd (hc.mpr rfl) (by assumption))
      · have hbp : 0 < b := by omega
        have m0 := Int.emod_nonneg a hb0
        have m1 := Int.emod_lt_of_pos a hbp
        apply t_X5_commonDivisor_3 i0 <;> intros
        all_goals first | omega | (exfalso; exact hb0 (hc.mp (by assumption))) | skip
        rw [← gd_mod a0 hbp] at hp
        have hc2 := cmpJ_0 (b := a % b) (by omega)
        by_cases hr0 : a % b = 0
        · rw [hr0] at hp ⊢
          rw [gd_0 b0] at hp
          have hc3 := cmpJ_0 (b := 0) (by omega)
          apply t_X5_commonDivisor_3 (show 0 ≤ i + 1 by omega) <;> intros
          all_goals first | omega | exact hp | skip
          all_goals (exfalso; exact absurd (hc3.mpr rfl) (by assumption))
        · have hrp : 0 < a % b := by omega
          have n0 := Int.emod_nonneg b hr0
          have n1 := Int.emod_lt_of_pos b hrp
          have n2 : b % (a % b) ≤ b - a % b := by
            have q1 : 1 ≤ b / (a % b) := (Int.le_ediv_iff_mul_le hrp).mpr (by omega)
            have q2 := Int.mul_ediv_add_emod b (a % b)
            have q3 : (a % b) * 1 ≤ (a % b) * (b / (a % b)) := Int.mul_le_mul_of_nonneg_left q1 (by omega)
            omega
          have hk : (2 : Int) ^ (k + 1) = 2 * 2 ^ k := by rw [Int.pow_succ]; omega
          apply t_X5_commonDivisor_3 (show 0 ≤ i + 1 by omega) <;> intros
          all_goals first | omega | (exfalso; exact hr0 (hc2.mp (by assumption))) | skip
          rw [← gd_mod b0 hrp] at hp
          exact ih _ _ _ _ (by omega) (by omega) (by omega) (by omega) n0 (by omega) (by omega) hp
  have h40 : (2 : Int) ^ 40 = 1099511627776 := by decide
  exact loop 40 0 a b none (by omega) (by omega) ha ja hb (by omega) jb kk
end SPP
