/-! calls side by side: the fewest sayings -/
theorem J_row2 {s t : m_St} {r : Int} (h : J s) (e : ∀ c j, ¬ (c = 2 ∧ j = r) → ¬ c = 4 + r → ¬ (c = 78 ∧ j = r) → ¬ (c = 79 ∧ 40 * r ≤ j ∧ j < 40 * r + 40) → ¬ (66 ≤ c ∧ c ≤ 75) → ¬ c = 80 → ¬ (88 ≤ c ∧ c ≤ 91) → t c j = s c j) (ht : tkok t) (h72 : ∀ i, inR (t 72 i)) (h0 : 0 ≤ r) (h6 : r < 6) (n0 : -1 ≤ t 2 r) (n4 : t 2 r ≤ 40) (em : t 78 r = t 2 r) (ej : ∀ j, 0 ≤ j → j < t 2 r → inR (t (4 + r) j) ∧ t 79 (40 * r + j) = t (4 + r) j) : J t := by
  obtain ⟨a1, a2, a3, a4, a5, a6⟩ := h
  refine ⟨Jr_set a1 (fun c j hc q1 q2 q3 q4 => e c j q1 q2 q3 q4 (by unfold uR at hc; omega) (by unfold uR at hc; omega) (by unfold uR at hc; omega)) h0 h6 n0 n4 em ej, ?_, ?_, ?_, ?_, ?_⟩
  · exact Jt_cong (fun c j hc => by unfold uT at hc; exact e c j (by omega) (by omega) (by omega) (by omega) (by omega) (by omega) (by omega)) a2
  · exact Jf_cong (fun c j hc => by unfold uF at hc; exact e c j (by omega) (by omega) (by omega) (by omega) (by omega) (by omega) (by omega)) a3
  · exact Jh_cong (fun c j hc => by unfold uH at hc; exact e c j (by omega) (by omega) (by omega) (by omega) (by omega) (by omega) (by omega)) a4
  · exact Jk_cong (fun c j hc => by unfold uK uB at hc; exact e c j (by omega) (by omega) (by omega) (by omega) (by omega) (by omega) (by omega)) a4.1 a5
  · exact ⟨fun i i0 i6 => gok_cong (fun j => e _ _ (by omega) (by omega) (by omega) (by omega) (by omega) (by omega) (by omega)) (fun j => e _ _ (by omega) (by omega) (by omega) (by omega) (by omega) (by omega) (by omega)) (a6.1 i i0 i6), ht, h72⟩
theorem eqv_tpr {s : m_St} {k0 k1 R : Int} {w : Int → Int} (h : tpr s k0 k1 R w) : eqv k0 k1 (wOf s) w := by
  intro c c0 c4
  obtain ⟨h1, h2⟩ := h.2.2.2.2 c c0 c4
  have e1 : wOf s c = w c := by unfold wOf; rw [if_pos c4]; exact h1
  have e2 : wOf s (4 + c) = w (4 + c) := by unfold wOf; rw [if_neg (by omega), show 4 + c - 4 = c by omega]; exact h2
  rw [e1, e2]
  exact ⟨⟨Iff.rfl, fun _ => rfl⟩, Iff.rfl, fun _ => rfl⟩
theorem fwF_tpr {s : m_St} {k0 k1 R c : Int} {w : Int → Int} (h : tpr s k0 k1 R w) : fwF s c = fun m => rF k0 k1 R c m w := by
  funext m
  unfold fwF
  rw [h.2.1, h.2.2.1, h.2.2.2.1]
  exact rF_eqv m _ _ (eqv_tpr h)
section OPU
variable {X : List Int32} {d : Nat} {s : m_St} {P : Option Value → m_St → Prop} {c r n : Int}
theorem soon_C (h0 : 0 ≤ r) (h6 : r < 6) (n0 : 0 ≤ n) (n5 : n ≤ 5) {q : Int → Int} (hz : s 2 r = n) (hq : ∀ j, 0 ≤ j → j < n → s 71 j = q j) (kk : ∀ s', (∀ x j, ¬ (x = 4 + r ∧ 0 ≤ j ∧ j < n) → s' x j = s x j) → (∀ j, 0 ≤ j → j < n → s' (4 + r) j = q j) → P (some (vI n)) s') : Rn X (d + 14) 110 66 [some (vR 0), some (vI c), some (vI r), some (vI n), some (vI 0)] [] s P := by
  have loop : ∀ (m : Nat) (i : Int) (s1 : m_St), 0 ≤ i → i + m = n → (∀ x j, ¬ (x = 4 + r ∧ 0 ≤ j ∧ j < n) → s1 x j = s x j) → (∀ j, 0 ≤ j → j < i → s1 (4 + r) j = q j) → Rn X (d + 14) 110 66 [some (vR 0), some (vI c), some (vI r), some (vI n), some (vI i)] [] s1 P := by
    intro m
    induction m with
    | zero =>
      intro i s1 i0 im f1 f2
      have hx := kk s1 f1 (fun j j0 j1 => f2 j j0 (by omega))
      apply t_X5_soonest_66 h0 h6 i0 <;> intros
      all_goals first | omega | exact hx
    | succ m ih =>
      intro i s1 i0 im f1 f2
      have e2 : s1 2 r = n := by rw [f1 2 r (by omega)]; exact hz
      have e71 : s1 71 i = q i := by rw [f1 71 i (by omega)]; exact hq i i0 (by omega)
      have hx := ih (i + 1) (m_upd s1 (4 + r) i (s1 71 i)) (by omega) (by omega) (fun x j hx => by rw [upd_o2 (by omega)]; exact f1 x j hx) (fun j j0 j1 => by
        by_cases hj : j = i
        · rw [hj, upd_eq, e71]
        · rw [upd_nj hj]; exact f2 j j0 (by omega))
      apply t_X5_soonest_66 h0 h6 i0 <;> intros
      all_goals first | omega | exact hx
  exact loop n.toNat 0 s (by omega) (by omega) (fun _ _ _ => rfl) (fun j j0 j1 => by omega)
theorem soon_M (h0 : 0 ≤ r) (h6 : r < 6) (n0 : 0 ≤ n) (n5 : n ≤ 5) {q : Int → Int} (hq : ∀ j, 0 ≤ j → j < n → s 90 j = q j) (kk : ∀ s', (∀ x j, ¬ (x = 79 ∧ 40 * r ≤ j ∧ j < 40 * r + 40) → s' x j = s x j) → (∀ j, 0 ≤ j → j < n → s' 79 (40 * r + j) = q j) → P (some (vI n)) s') : Rn X (d + 6) 225 55 [some (vR 77), some (vI c), some (vI r), some (vI n), some (vI 0)] [] s P := by
  have loop : ∀ (m : Nat) (i : Int) (s1 : m_St), 0 ≤ i → i + m = n → (∀ x j, ¬ (x = 79 ∧ 40 * r ≤ j ∧ j < 40 * r + 40) → s1 x j = s x j) → (∀ j, 0 ≤ j → j < i → s1 79 (40 * r + j) = q j) → Rn X (d + 6) 225 55 [some (vR 77), some (vI c), some (vI r), some (vI n), some (vI i)] [] s1 P := by
    intro m
    induction m with
    | zero =>
      intro i s1 i0 im f1 f2
      have hx := kk s1 f1 (fun j j0 j1 => f2 j j0 (by omega))
      apply t_X6_soonest_55 i0 h0 h6 <;> intros
      all_goals first | omega | exact hx
    | succ m ih =>
      intro i s1 i0 im f1 f2
      have e90 : s1 90 i = q i := by rw [f1 90 i (by omega)]; exact hq i i0 (by omega)
      have hx := ih (i + 1) (m_upd s1 79 (40 * r + i) (s1 90 i)) (by omega) (by omega) (fun x j hx => by rw [upd_o2 (by omega)]; exact f1 x j hx) (fun j j0 j1 => by
        by_cases hj : j = i
        · rw [hj, upd_eq, e90]
        · rw [upd_nj (by omega)]; exact f2 j j0 (by omega))
      apply t_X6_soonest_55 i0 h0 h6 <;> intros
      all_goals first | omega | exact hx
  exact loop n.toNat 0 s (by omega) (by omega) (fun _ _ _ => rfl) (fun j j0 j1 => by omega)
end OPU
