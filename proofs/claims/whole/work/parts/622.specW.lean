/-! the reference: what is held, by how much one is moved, what follows, ones -/
theorem hset_at {f : Int → Int} {p t : Int} : hset (fun c => f (p + c)) t = (if t ≤ f p then 1 else 0) + (if t ≤ f (p + 1) then 2 else 0) + (if t ≤ f (p + 2) then 4 else 0) + (if t ≤ f (p + 3) then 8 else 0) := by
  unfold hset
  simp only [Int.add_zero]
section SPW
variable {X : List Int32} {d : Nat} {s : m_St} {P : Option Value → m_St → Prop} {k p h c z : Int}
theorem sp_held83 (rk : inR k) (p0 : 0 ≤ p) (pn : p + 3 < 198) (hw : wr (fun c => s 83 (p + c))) (kk : P (some (vI (hset (fun c => s 83 (p + c)) (hf k)))) s) : Cl X (d + 1) 188 [vI k, vR 83, vI p] s P := by
  rw [hset_at] at kk
  have w0 : inR (s 83 (p + 0)) := hw 0 (by omega) (by omega)
  have w1 : inR (s 83 (p + 1)) := hw 1 (by omega) (by omega)
  have w2 : inR (s 83 (p + 2)) := hw 2 (by omega) (by omega)
  have w3 : inR (s 83 (p + 3)) := hw 3 (by omega) (by omega)
  rw [Int.add_zero] at w0
  apply t_held83 p0 pn <;> intros <;> first | exact PI kk (by omega) | omega
theorem sp_held80 (rk : inR k) (p0 : 0 ≤ p) (pn : p + 3 < 40) (hw : wr (fun c => s 80 (p + c))) (kk : P (some (vI (hset (fun c => s 80 (p + c)) (hf k)))) s) : Cl X (d + 1) 188 [vI k, vR 80, vI p] s P := by
  rw [hset_at] at kk
  have w0 : inR (s 80 (p + 0)) := hw 0 (by omega) (by omega)
  have w1 : inR (s 80 (p + 1)) := hw 1 (by omega) (by omega)
  have w2 : inR (s 80 (p + 2)) := hw 2 (by omega) (by omega)
  have w3 : inR (s 80 (p + 3)) := hw 3 (by omega) (by omega)
  rw [Int.add_zero] at w0
  apply t_held80 p0 pn <;> intros <;> first | exact PI kk (by omega) | omega
theorem sp_held89 (rk : inR k) (p0 : 0 ≤ p) (pn : p + 3 < 56) (hw : wr (fun c => s 89 (p + c))) (kk : P (some (vI (hset (fun c => s 89 (p + c)) (hf k)))) s) : Cl X (d + 1) 188 [vI k, vR 89, vI p] s P := by
  rw [hset_at] at kk
  have w0 : inR (s 89 (p + 0)) := hw 0 (by omega) (by omega)
  have w1 : inR (s 89 (p + 1)) := hw 1 (by omega) (by omega)
  have w2 : inR (s 89 (p + 2)) := hw 2 (by omega) (by omega)
  have w3 : inR (s 89 (p + 3)) := hw 3 (by omega) (by omega)
  rw [Int.add_zero] at w0
  apply t_held89 p0 pn <;> intros <;> first | exact PI kk (by omega) | omega
theorem fol_iff {R Q : Int} (ht : tr R Q) (h0 : 0 ≤ h) (h1 : h < 16) (c0 : 0 ≤ c) (c4 : c < 4) : iAnd (iShr R (4 * c)) h = 0 ↔ ¬ ∃ j : Nat, j < 4 ∧ ¬ (j : Int) = c ∧ bt h j = true ∧ bt Q (4 * j + c.toNat) = true := by
  rw [and_0]
  constructor
  · intro hh ⟨j, j4, jc, hj, hq⟩
    refine hh j (by omega) ⟨?_, hj⟩
    rw [bt_shr (by omega) (by omega)]
    have := (ht.2.2.1 c.toNat j (by omega) j4).1
    rw [show (4 * c).toNat + j = 4 * c.toNat + j by omega, this]
    exact hq
  · intro hh k hk ⟨h2, h3⟩
    by_cases k4 : k < 4
    · rw [bt_shr (by omega) (by omega), show (4 * c).toNat + k = 4 * c.toNat + k by omega] at h2
      obtain ⟨e1, e2⟩ := ht.2.2.1 c.toNat k (by omega) k4
      refine hh ⟨k, k4, ?_, h3, ?_⟩
      · intro hkc
        rw [e2 (by omega)] at h2
        cases h2
      · rw [← e1]; exact h2
    · rw [bt_lt h0 h1 (by omega)] at h3
      cases h3
theorem sp_movedBy {R : Int} (ht : tr R (s 83 7)) (k0 : 0 ≤ k) (k6 : k < 6) (h0 : 0 ≤ h) (h1 : h < 16) (c0 : 0 ≤ c) (c4 : c < 4) (kk : P (some (vI (mv k h R c))) s) : Cl X (d + 1) 193 [vR 77, vI k, vI h, vI c] s P := by
  apply t_X6_movedBy
  have loop : ∀ (m : Nat) (f i : Int), 0 ≤ i → i + m = 4 → (f = 0 ∨ f = 1) → (f = 1 ↔ ∃ j : Nat, (j : Int) < i ∧ ¬ (j : Int) = c ∧ bt h j = true ∧ bt (s 83 7) (4 * j + c.toNat) = true) → Rn X (d + 1) 193 6 [some (vR 77), some (vI k), some (vI h), some (vI c), some (vI f), some (vI i)] [] s P := by
    intro m
    induction m with
    | zero =>
      intro f i i0 im hf0 hf1
      have i4 : i = 4 := by omega
      subst i4
      have e : iAnd (iShr R (4 * c)) h = 0 ↔ ¬ f = 1 := by
        rw [fol_iff ht h0 h1 c0 c4, hf1]
        constructor
        · intro z ⟨j, j1, j2⟩
          exact z ⟨j, by omega, j2⟩
        · intro z ⟨j, j1, j2⟩
          exact z ⟨j, by omega, j2⟩
      have b := bit_of (a := h) c0 (by omega)
      have fin : ∀ v, v = mv k h R c → P (some (vI v)) s := fun v hv => PI kk hv.symm
      unfold mv at fin
      have hma : ma k = if k = 1 ∨ k = 4 then 1 else if k = 2 ∨ k = 5 then 2 else if k = 3 then 3 else 0 := rfl
      have hbb : iAnd (iShr h c) 1 = 0 ∨ iAnd (iShr h c) 1 = 1 := by
        rw [b]; cases bt h c.toNat
        · exact Or.inl rfl
        · exact Or.inr rfl
      apply t_X6_movedBy_6 i0 <;> intros
      all_goals first | omega | (refine fin _ ?_; omega) | skip
    | succ m ih =>
      intro f i i0 im hf0 hf1
      have bq := bit_1 (a := s 83 7) (j := 4 * i + c) (by omega) (by omega)
      have bh := bit_1 (a := h) i0 (by omega)
      rw [show (4 * i + c).toNat = 4 * i.toNat + c.toNat by omega] at bq
      have no : ¬ (¬ i = c ∧ bt h i.toNat = true ∧ bt (s 83 7) (4 * i.toNat + c.toNat) = true) → ∀ (f' : Int), f' = f → Rn X (d + 1) 193 6 [some (vR 77), some (vI k), some (vI h), some (vI c), some (vI f'), some (vI (i + 1))] [] s P := by
        intro hn f' hff
        subst hff
        refine ih _ (i + 1) (by omega) (by omega) hf0 ?_
        rw [hf1]
        constructor
        · intro ⟨j, j1, j2⟩
          exact ⟨j, by omega, j2⟩
        · intro ⟨j, j1, j2⟩
          refine ⟨j, ?_, j2⟩
          by_cases hj : (j : Int) = i
          · exfalso
            have hjn : j = i.toNat := by omega
            subst hjn
            exact hn ⟨by omega, j2.2.1, j2.2.2⟩
          · omega
      have yes : (∃ j : Nat, (j : Int) < i + 1 ∧ ¬ (j : Int) = c ∧ bt h j = true ∧ bt (s 83 7) (4 * j + c.toNat) = true) → Rn X (d + 1) 193 6 [some (vR 77), some (vI k), some (vI h), some (vI c), some (vI 1), some (vI (i + 1))] [] s P := by
        intro he
        exact ih _ (i + 1) (by omega) (by omega) (Or.inr rfl) ⟨fun _ => he, fun _ => rfl⟩
      apply t_X6_movedBy_6 i0 <;> intros
      all_goals first | omega | skip
      · next g1 g2 =>
        obtain ⟨j, j1, j2⟩ := hf1.mp (by omega)
        exact yes ⟨j, by omega, j2⟩
      · next g1 g2 g3 => exact no (fun z => z.1 g3) _ (by omega)
      · next g1 g2 g3 g4 => exact no (fun z => g4 (bh.mpr z.2.1)) _ (by omega)
      · next g1 g2 g3 g4 g5 => exact no (fun z => g5 (bq.mpr z.2.2)) _ (by omega)
      · next g1 g2 g3 g4 g5 => exact yes ⟨i.toNat, by omega, by omega, bh.mp g4, bq.mp g5⟩
  exact loop 4 0 0 (by omega) (by omega) (Or.inl rfl) ⟨fun z => by omega, fun ⟨j, j1, _⟩ => by omega⟩
end SPW
