/-! the fewest sayings, the reference -/
theorem along_get {k0 k1 R : Int} {s : m_St} : ∀ (p : List Int) (q : Int), along k0 k1 R s q p → ∀ i : Nat, i < p.length → s 90 (q + i) = p.getD i 0 := by
  intro p
  induction p with
  | nil => intro q _ i hi; exact absurd hi (by simp)
  | cons a p ih =>
    intro q h i hi
    cases i with
    | zero =>
      rw [show q + ((0 : Nat) : Int) = q by omega]
      exact h.1
    | succ i =>
      have := ih (q + 1) h.2.2 i (by simp only [List.length_cons] at hi; omega)
      rw [show q + 1 + (i : Int) = q + ((i + 1 : Nat) : Int) by omega] at this
      rw [this]
      rfl
theorem fews_eq {F G : Nat → Option (List Int)} : ∀ (k n : Nat), (∀ j, (∀ i, i < j → G i = none) → F j = G j) → (∀ j, j < n → G j = none) → fews F k n = fews G k n := by
  intro k
  induction k with
  | zero => intro n _ _; rfl
  | succ k ih =>
    intro n h hn
    have e := h n hn
    show (match F n with | some p => some (n, p) | none => fews F k (n + 1)) = (match G n with | some p => some (n, p) | none => fews G k (n + 1))
    rw [e]
    cases hG : G n with
    | some p => rfl
    | none =>
      refine ih (n + 1) h (fun j hj => ?_)
      by_cases hjn : j = n
      · rw [hjn]; exact hG
      · exact hn j (by omega)
section SPTC
variable {X : List Int32} {d : Nat} {s : m_St} {P : Option Value → m_St → Prop} {c m n k0 k1 R : Int}
/-- outside of a search nothing has changed -/
def frS (s s' : m_St) : Prop := ∀ x j, ¬ x = 89 → ¬ x = 90 → s' x j = s x j
theorem agree_n (ho : opk s k0 k1 R) (hw : w8 (wt s 0)) (rc : inR c) (rm : inR m) (n0 : 0 ≤ n) (n5 : n ≤ 5) (hnm : n ≤ m) (z4 : Option Value)
    (hE : gF k0 k1 R c n.toNat (wt s 0) = none → ∀ s' z, frS s s' → wt s' 0 = wt s 0 → Rn X (d + 5) 226 2 [some (vR 77), some (vI c), some (vI m), some (vI (n + 1)), z] [] s' P)
    (hF : ∀ p, gF k0 k1 R c n.toNat (wt s 0) = some p → ∀ s', frS s s' → (∀ i : Nat, i < p.length → s' 90 i = p.getD i 0) → P (some (vI n)) s') :
    Rn X (d + 5) 226 2 [some (vR 77), some (vI c), some (vI m), some (vI n), z4] [] s P := by
  have chk : ∀ s' b, ¬ b = 0 → inR b → opk s' k0 k1 R → w8 (wt s' n) → (mcd k0 k1 c (wt s' n) → P (some (vI n)) s') → (¬ mcd k0 k1 c (wt s' n) → Cl X (d + 4) 227 [vR 77, vI n, vI 0] s' (fun v s' => Rn X (d + 5) 226 55 [some (vR 77), some (vI c), some (vI m), some (vI n), some (vI b)] (m_push v []) s' P)) → Rn X (d + 5) 226 15 [some (vR 77), some (vI c), some (vI m), some (vI n), some (vI b)] [] s' P := by
    intro s' b hb rb ho' hw' h1 h2
    have hoS : opS s' := by unfold opS; rw [ho'.1, ho'.2.1, ho'.2.2.2.2.2.2.1]; exact ho'
    have e0 : hW s' n 0 = hA k0 (wt s' n) := by unfold hW; rw [if_pos rfl, ho'.1]
    have e1 : hW s' n 1 = hB k1 (wt s' n) := by unfold hW; rw [if_neg (by decide), ho'.2.1]
    have em : mcd k0 k1 c (wt s' n) ↔ hW s' n 0 = hW s' n 1 ∧ iAnd c (iXor (iAnd (hW s' n 0) (hW s' n 1)) (-1)) = 0 := by rw [e0, e1]; exact Iff.rfl
    apply t_X6_agreesIn_15 n0 <;> intros
    all_goals first | exact hoS | exact hw' | (exact h1 (em.mpr ⟨by assumption, by assumption⟩)) | (refine h2 (fun z => ?_); first | exact absurd (em.mp z).1 (by assumption) | exact absurd (em.mp z).2 (by assumption)) | omega
  have zer : ∀ s', frS s s' → wt s' 0 = wt s 0 → gF k0 k1 R c n.toNat (wt s 0) = none → Rn X (d + 5) 226 15 [some (vR 77), some (vI c), some (vI m), some (vI n), some (vI 0)] [] s' P := by
    intro s' hf hw0 hg
    have := hE hg s' (some (vI 0)) hf hw0
    apply t_X6_agreesIn_15 n0 <;> intros
    all_goals first | omega | exact this
  by_cases hz : n = 0
  · subst hz
    have hw2 : wt (m_upd s 90 0 (-1)) 0 = wt s 0 := wt_90
    have hf2 : frS s (m_upd s 90 0 (-1)) := fun x j _ c2 => upd_nc c2
    have first : Rn X (d + 5) 226 15 [some (vR 77), some (vI c), some (vI m), some (vI 0), some (vI 1)] [] (m_upd s 90 0 (-1)) P := by
      refine chk _ 1 (by decide) (by decide) (opk_kep (q := 0) ho hf2) (by rw [hw2]; exact hw) (fun hm => ?_) (fun hm => ?_)
      · rw [hw2] at hm
        exact hF [] (gF_y hm) _ hf2 (fun i hi => absurd hi (by simp))
      · rw [hw2] at hm
        have z := zer (m_upd s 90 0 (-1)) hf2 hw2 (gF_n hm)
        have z2 := t_X6_agreesIn_55 (X := X) (d := d) (c := c) (m := m) (b := 1) (rv := 0) (P := P) (Int.le_refl 0) z
        apply t_X6_nextTalk (by omega) (by omega) <;> intros
        all_goals first | omega | skip
        apply t_X6_nextTalk_23 (by omega) (by omega) <;> intros
        all_goals first | omega | exact z2
    have first2 := t_X6_agreesIn_13 (X := X) (d := d) (c := c) (m := m) (z4 := z4) (rv := 1) (P := P) (Int.le_refl 0) first
    apply t_X6_agreesIn_2 n0 <;> intros
    all_goals first | omega | skip
    apply t_X6_nextTalk (by omega) (by omega) <;> intros
    all_goals first | omega | skip
    apply t_X6_nextTalk_23 (by omega) (by omega) <;> intros
    all_goals first | omega | exact first2
  · have n1 : 1 ≤ n := by omega
    have srch := srch2 (X := X) (d := d) (n := n) (k0 := k0) (k1 := k1) (R := R) (c := c) (A := fun f Q => (f = 0 ∨ f = 1) ∧ ∀ rv s', Rn X (d + 5) 226 15 [some (vR 77), some (vI c), some (vI m), some (vI n), some (vI rv)] [] s' P → Q (some (vI rv)) s') n1 n5 (fun f Q h => h.1) (fun f Q s' hA ho' hw' hm => by
      refine ⟨0, fun v s' => Rn X (d + 5) 226 55 [some (vR 77), some (vI c), some (vI m), some (vI n), some (vI 1)] (m_push v []) s' P, ⟨Or.inl rfl, fun rv s2 h2 => t_X6_agreesIn_55 n0 h2⟩, fun hr => hA.2 1 s' ?_⟩
      refine chk s' 1 (by decide) (by decide) ho' hw' (fun z => absurd z hm) (fun _ => ?_)
      apply t_X6_nextTalk n0 n5 <;> intros
      all_goals first | omega | exact hr)
    have hgn : n.toNat = (n - 1).toNat + 1 := by omega
    have w90 : wt (m_upd s 90 0 (-1)) 0 = wt s 0 := wt_90
    have go := srch (n - 1).toNat 8 (-1) 0 (m_upd s 90 0 (-1)) 1 (fun v s' => Rn X (d + 5) 226 13 [some (vR 77), some (vI c), some (vI m), some (vI n), z4] (m_push v []) s' P) ⟨Or.inr rfl, fun rv s2 h2 => t_X6_agreesIn_13 n0 h2⟩ (by omega) (by omega) (by omega) upd_eq (opk_kep (q := 0) ho (fun x j _ c2 => upd_nc c2)) (by rw [w90]; exact hw) (by omega) (fun hn s' f' Q' hA' hk' => by
      rw [w90] at hn
      have hf2 : frS s s' := fun x j c1 c2 => by rw [hk'.1 x j c1 c2, upd_nc c2]
      have hw2 : wt s' 0 = wt s 0 := by rw [hk'.2.2 0 (by omega) (by omega), w90]
      have z := hA'.2 0 s' (zer s' hf2 hw2 (by rw [hgn]; exact hn))
      have rf' := hA'.1
      apply t_X6_nextTalk_23 n0 n5 <;> intros
      all_goals first | omega | exact z) (fun p hp s' f' Q' hA' hk' hal hw3 hm => by
      rw [w90] at hp
      have hf2 : frS s s' := fun x j c1 c2 => by rw [hk'.1 x j c1 c2, upd_nc c2]
      refine hA'.2 1 s' (chk s' 1 (by decide) (by decide) (opk_kep (q := 0) ho hf2) ?_ (fun _ => hF p (by rw [hgn]; exact hp) s' hf2 (fun i hi => ?_)) (fun z => absurd hm z))
      · exact hw3
      · have := along_get p 0 hal i hi
        rw [show (0 : Int) + (i : Int) = i by omega] at this
        exact this)
    apply t_X6_agreesIn_2 n0 <;> intros
    all_goals first | omega | skip
    apply t_X6_nextTalk n0 n5 <;> intros
    all_goals first | omega | exact go
end SPTC
