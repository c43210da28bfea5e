section SPTD
variable {X : List Int32} {d : Nat} {s : m_St} {P : Option Value → m_St → Prop} {c m n k0 k1 R : Int}
def agM (F : Nat → Option (List Int)) (k n : Nat) (v : Int) (s' : m_St) : Prop := match fews F k n with | none => v = -9 | some np => v = np.1 ∧ ∀ i : Nat, i < np.2.length → s' 90 i = np.2.getD i 0
theorem agree_all (ho : opk s k0 k1 R) (hw : w8 (wt s 0)) (rc : inR c) (m0 : -1 ≤ m) (m5 : m ≤ 5) (kk : ∀ v s', frS s s' → agM (fun j => gF k0 k1 R c j (wt s 0)) (m + 1).toNat 0 v s' → P (some (vI v)) s') : Cl X (d + 5) 226 [vR 77, vI c, vI m] s P := by
  have loop : ∀ (k : Nat) (n : Nat) (s1 : m_St) (z4 : Option Value), (n : Int) + k = m + 1 → frS s s1 → wt s1 0 = wt s 0 → (∀ v s', frS s s' → agM (fun j => gF k0 k1 R c j (wt s 0)) k n v s' → P (some (vI v)) s') → Rn X (d + 5) 226 2 [some (vR 77), some (vI c), some (vI m), some (vI n), z4] [] s1 P := by
    intro k
    induction k with
    | zero =>
      intro n s1 z4 hn hf hw1 hk
      have hx := hk (-9) s1 hf rfl
      apply t_X6_agreesIn_2 (by omega) <;> intros
      all_goals first | omega | exact hx
    | succ k ih =>
      intro n s1 z4 hn hf hw1 hk
      have ho1 : opk s1 k0 k1 R := opk_kep (q := 0) ho hf
      refine agree_n ho1 (by rw [hw1]; exact hw) rc (by omega) (by omega) (by omega) (by omega) z4 (fun hg s' z hf' hw' => ?_) (fun p hp s' hf' hpth => ?_)
      · rw [hw1, Int.toNat_natCast] at hg
        have := ih (n + 1) s' z (by omega) (fun x j c1 c2 => by rw [hf' x j c1 c2, hf x j c1 c2]) (by rw [hw', hw1]) (fun v s2 f2 h2 => hk v s2 f2 (by
          unfold agM at h2 ⊢
          have e : fews (fun j => gF k0 k1 R c j (wt s 0)) (k + 1) n = fews (fun j => gF k0 k1 R c j (wt s 0)) k (n + 1) := by
            show (match gF k0 k1 R c n (wt s 0) with | some p => some (n, p) | none => fews (fun j => gF k0 k1 R c j (wt s 0)) k (n + 1)) = _
            rw [hg]
          rw [e]
          exact h2))
        rw [show ((n + 1 : Nat) : Int) = (n : Int) + 1 by omega] at this
        exact this
      · rw [hw1, Int.toNat_natCast] at hp
        refine hk n s' (fun x j c1 c2 => by rw [hf' x j c1 c2, hf x j c1 c2]) ?_
        unfold agM
        have e : fews (fun j => gF k0 k1 R c j (wt s 0)) (k + 1) n = some (n, p) := by
          show (match gF k0 k1 R c n (wt s 0) with | some p => some (n, p) | none => fews (fun j => gF k0 k1 R c j (wt s 0)) k (n + 1)) = _
          rw [hp]
        rw [e]
        exact ⟨rfl, hpth⟩
  apply t_X6_agreesIn
  have := loop (m + 1).toNat 0 s none (by omega) (fun _ _ _ _ => rfl) rfl kk
  exact this
/-- what the search of the reference comes to, by the search of the class -/
def qAg (s : m_St) (c m v : Int) (s' : m_St) : Prop := frS s s' ∧ agM (fun j => rF (s 88 0) (s 88 1) (s 38 5) c j (wt s 0)) (m + 1).toNat 0 v s'
theorem sp_agreesIn (ho : opS s) (hw : w8 (wt s 0)) (c0 : 0 ≤ c) (c1 : c < 16) (m0 : -1 ≤ m) (m5 : m ≤ 5) (kk : ∀ v s', qAg s c m v s' → P (some (vI v)) s') : Cl X (d + 5) 226 [vR 77, vI c, vI m] s P := by
  refine agree_all ho hw (by omega) m0 m5 (fun v s' hf h => kk v s' ⟨hf, ?_⟩)
  unfold agM at h ⊢
  rw [← fews_eq (F := fun j => gF (s 88 0) (s 88 1) (s 38 5) c j (wt s 0)) (m + 1).toNat 0 (fun j hj => gF_rF c0 c1 j _ hw hj) (fun j hj => absurd hj (Nat.not_lt_zero j))]
  exact h
theorem fsts_some {F : Int → Option (List Int)} : ∀ (k : Nat) (a : Int) (p : List Int), fsts F k a = some p → ∃ b q, p = b :: q ∧ F b = some q ∧ a ≤ b ∧ b < a + k := by
  intro k
  induction k with
  | zero => intro a p h; cases h
  | succ k ih =>
    intro a p h
    cases hF : F a with
    | some q =>
      rw [fsts_s hF] at h
      injection h with h
      exact ⟨a, q, h.symm, hF, by omega, by omega⟩
    | none =>
      rw [fsts_n hF] at h
      obtain ⟨b, q, h1, h2, h3, h4⟩ := ih (a + 1) p h
      exact ⟨b, q, h1, h2, by omega, by omega⟩
theorem rF_len {wn : Int} : ∀ (m : Nat) (w : Int → Int) (p : List Int), rF k0 k1 R wn m w = some p → p.length = m ∧ ∀ i : Nat, i < m → 0 ≤ p.getD i 0 ∧ p.getD i 0 < 8 := by
  intro m
  induction m with
  | zero =>
    intro w p h
    unfold rF at h
    split at h
    · injection h with h
      subst h
      exact ⟨rfl, fun i hi => by omega⟩
    · cases h
  | succ m ih =>
    intro w p h
    obtain ⟨b, q, h1, h2, h3, h4⟩ := fsts_some 8 0 p h
    split at h2
    · cases h2
    · obtain ⟨l1, l2⟩ := ih _ q h2
      subst h1
      refine ⟨by simp [l1], fun i hi => ?_⟩
      cases i with
      | zero => exact ⟨h3, by show b < 8; omega⟩
      | succ i => exact l2 i (by omega)
theorem fews_some {F : Nat → Option (List Int)} : ∀ (k n : Nat) (np : Nat × List Int), fews F k n = some np → F np.1 = some np.2 ∧ n ≤ np.1 ∧ np.1 < n + k := by
  intro k
  induction k with
  | zero => intro n np h; cases h
  | succ k ih =>
    intro n np h
    cases hF : F n with
    | some p =>
      have e : fews F (k + 1) n = some (n, p) := by
        show (match F n with | some p => some (n, p) | none => fews F k (n + 1)) = _
        rw [hF]
      rw [e] at h
      injection h with h
      subst h
      exact ⟨hF, Nat.le_refl _, by omega⟩
    | none =>
      have e : fews F (k + 1) n = fews F k (n + 1) := by
        show (match F n with | some p => some (n, p) | none => fews F k (n + 1)) = _
        rw [hF]
      rw [e] at h
      obtain ⟨h1, h2, h3⟩ := ih (n + 1) np h
      exact ⟨h1, by omega, by omega⟩
end SPTD
