section RDD
variable {X : m_X} {d : Nat} {s : m_St} {P : Option Value → m_St → Prop} {t : Int}
theorem sok_at (h : sok s) : ∀ p, 0 ≤ p → -128 ≤ at_ (s 23 2) (s 25) p ∧ at_ (s 23 2) (s 25) p ≤ 1000 ∧ (at_ (s 23 2) (s 25) p ≤ 900 → p < s 23 2) := fun p hp => by
  obtain ⟨a0, a1, a2, a3, a4⟩ := h
  unfold at_
  split
  · have := a4 p hp (by assumption); omega
  · omega
theorem sp_readReason (h : sok s) (hp : s 23 3 < s 23 2) (k : ∀ v s', qR s v s' → P (some (vI v)) s') : Cl X (d + 2) 38 [vR 23] s P := by
  obtain ⟨a0, a1, a2, a3, a4⟩ := id h
  have T := t_X2_readReason (X := X) (d := d) (s := s) (P := P)
  simp only [upd2, sgn_upd, Int.add_assoc, Int.reduceAdd] at T
  have c1 := sok_at h (s 23 3 + 1) (by omega)
  have c2 := sok_at h (s 23 3 + 2) (by omega)
  have w : ∀ q u : Int, 0 ≤ q → q ≤ s 23 2 → wkR s (m_upd (m_upd s 23 3 q) 23 6 u) := fun q u q0 q1 => ⟨fun c j hc => by rw [upd_o2 (by omega), upd_o2 (by omega)], by rw [upd_nj (by decide), upd_eq]; exact q0, by rw [upd_nj (by decide), upd_eq]; exact q1⟩
  have w1 : ∀ q : Int, 0 ≤ q → q ≤ s 23 2 → wkR s (m_upd s 23 3 q) := fun q q0 q1 => ⟨fun c j hc => upd_o2 (by omega), by rw [upd_eq]; exact q0, by rw [upd_eq]; exact q1⟩
  apply T <;> intros
  all_goals first | omega | (exact sok_upd h (by omega) (by omega)) | skip
  all_goals refine k _ _ ⟨by unfold fR; omega, by first | (exact w1 _ (by omega) (by omega)) | (exact w _ _ (by omega) (by omega)), fun hv => ?_⟩
  all_goals first | omega | skip
  refine ⟨by rw [upd_nj (by decide), upd_eq], ?_, ?_⟩
  · rw [upd_nj (by decide), upd_nj (by decide)]
  · rw [upd_eq]
theorem ty_rg {i : Int} (h0 : 0 ≤ i) (h6 : i < 6) : ty (26 + 2 * i) = 0 := (rw_24 ⟨h0, h6⟩).1
theorem sp_readGuest (h : sok s) (hp : s 23 3 < s 23 2) (hg : rgk s) (n0 : 0 ≤ s 23 4) (n6 : s 23 4 ≤ 6) (k : ∀ v s', qG s v s' → P (some (vI v)) s') : Cl X (d + 3) 39 [vR 23] s P := by
  obtain ⟨a0, a1, a2, a3, a4⟩ := id h
  have c0 := sok_at h (s 23 3) (by omega)
  have hk := kOf_r (at_ (s 23 2) (s 25) (s 23 3))
  have hsg : sgn s = at_ (s 23 2) (s 25) (s 23 3) := rfl
  have same : ∀ v : Int, v = fG (s 23 2) (s 25) (s 23 3) (s 23 4) → ¬ v = -9 → qG s v s := fun v hv h9 => ⟨hv, ⟨⟨fun _ _ _ _ _ => rfl, a0, by omega, hg⟩, fun _ => rfl⟩, fun z => absurd z h9⟩
  -- behind i figures
  have loop : ∀ m : Nat, ∀ i : Int, 0 ≤ i → (4 - i).toNat = m → i ≤ 4 → s 23 4 < 6 → 0 ≤ kOf (at_ (s 23 2) (s 25) (s 23 3)) → (∀ c, 0 ≤ c → c < i → 0 ≤ at_ (s 23 2) (s 25) (s 23 3 + 1 + c) - 48 ∧ at_ (s 23 2) (s 25) (s 23 3 + 1 + c) - 48 < 10) →
      ∀ (s1 : m_St) (z : Option Value), (∀ c j, ¬ (c = 23 ∧ (j = 3 ∨ j = 4)) → ¬ c = 26 + 2 * s 23 4 → ¬ c = 26 + 2 * s 23 4 + 1 → s1 c j = s c j) → s1 23 3 = s 23 3 + 1 + i → s1 23 4 = s 23 4 → s 23 3 + 1 + i ≤ s 23 2 → gok s1 (26 + 2 * s 23 4) → s1 (26 + 2 * s 23 4) 1 = kOf (at_ (s 23 2) (s 25) (s 23 3)) → (∀ c, 0 ≤ c → c < i → s1 (26 + 2 * s 23 4 + 1) c = at_ (s 23 2) (s 25) (s 23 3 + 1 + c) - 48) →
      Rn X (d + 3) 39 52 [some (vR 23), some (vI (kOf (at_ (s 23 2) (s 25) (s 23 3)))), some (vR (26 + 2 * s 23 4)), some (vI i), z] [] s1 P := by
    intro m
    induction m with
    | zero =>
      intro i hi hm h4 hc6 hk0 hdig s1 z e1 e2 e3 e4 e5 e6 e7
      have hi4 : i = 4 := by omega
      subst hi4
      have r1 : rgk s1 := fun j j0 j6 => by
        by_cases hj : j = s 23 4
        · rw [hj]; exact e5
        · exact gok_cong (fun x => e1 _ _ (by omega) (by omega) (by omega)) (fun x => e1 _ _ (by omega) (by omega) (by omega)) (hg j j0 j6)
      have d0 := hdig 0 (by omega) (by omega)
      have d1 := hdig 1 (by omega) (by omega)
      have d2 := hdig 2 (by omega) (by omega)
      have d3 := hdig 3 (by omega) (by omega)
      rw [Int.add_zero] at d0
      rw [Int.add_assoc, show (1 : Int) + 1 = 2 by decide] at d1
      rw [Int.add_assoc, show (1 : Int) + 2 = 3 by decide] at d2
      rw [Int.add_assoc, show (1 : Int) + 3 = 4 by decide] at d3
      refine t_X2_readGuest_52 (ty_rg n0 hc6) hi (by omega) (fun _ => k _ _ ⟨by unfold fG; omega, ⟨⟨fun c j q1 q2 q3 => ?_, ?_, ?_, fun j j0 j6 => ?_⟩, fun z => by omega⟩, fun _ => ⟨?_, ?_, ?_, fun c x0 x1 => ?_⟩⟩) (by omega) (by omega) (by omega) (by omega) (by omega) (by omega)
      · rw [upd_o2 (by omega)]
        exact e1 c j q1 q2 q3
      · rw [upd_nj (by decide), e2]; omega
      · rw [upd_nj (by decide), e2]; omega
      · exact gok_cong (fun x => upd_nc (by omega)) (fun x => upd_nc (by omega)) (r1 j j0 j6)
      · rw [upd_nj (by decide), e2]; omega
      · rw [upd_eq, e3]
      · rw [upd_nc (by omega)]; exact e6
      · rw [upd_nc (by omega)]; exact e7 c x0 x1
    | succ m ih =>
      intro i hi hm h4 hc6 hk0 hdig s1 z e1 e2 e3 e4 e5 e6 e7
      have f2 : s1 23 2 = s 23 2 := e1 _ _ (by omega) (by omega) (by omega)
      have f25 : s1 25 = s 25 := funext fun j => e1 _ _ (by omega) (by omega) (by omega)
      have hs1 : sok s1 := by
        unfold sok
        rw [f2, f25, e2]
        exact ⟨by omega, by omega, a2, a3, a4⟩
      have hsg1 : sgn s1 = at_ (s 23 2) (s 25) (s 23 3 + 1 + i) := by unfold sgn; rw [f2, f25, e2]
      have cc := sok_at h (s 23 3 + 1 + i) (by omega)
      have r1 : rgk s1 := fun j j0 j6 => by
        by_cases hj : j = s 23 4
        · rw [hj]; exact e5
        · exact gok_cong (fun x => e1 _ _ (by omega) (by omega) (by omega)) (fun x => e1 _ _ (by omega) (by omega) (by omega)) (hg j j0 j6)
      have bad : ¬ (0 ≤ at_ (s 23 2) (s 25) (s 23 3 + 1 + i) - 48 ∧ at_ (s 23 2) (s 25) (s 23 3 + 1 + i) - 48 < 10) → P (some (vI (s1 23 3))) s1 := by
        intro hb
        refine k _ _ ⟨?_, ⟨⟨e1, by omega, by omega, r1⟩, fun z => by omega⟩, fun hv => by omega⟩
        rw [e2]
        rcases (show i = 0 ∨ i = 1 ∨ i = 2 ∨ i = 3 by omega) with rfl | rfl | rfl | rfl
        · rw [Int.add_zero] at hb ⊢
          unfold fG; omega
        · have d0 := hdig 0 (by omega) (by omega)
          rw [Int.add_zero] at d0
          rw [Int.add_assoc, show (1 : Int) + 1 = 2 by decide] at hb ⊢
          unfold fG; omega
        · have d0 := hdig 0 (by omega) (by omega)
          have d1 := hdig 1 (by omega) (by omega)
          rw [Int.add_zero] at d0
          rw [Int.add_assoc, show (1 : Int) + 1 = 2 by decide] at d1
          rw [Int.add_assoc, show (1 : Int) + 2 = 3 by decide] at hb ⊢
          unfold fG; omega
        · have d0 := hdig 0 (by omega) (by omega)
          have d1 := hdig 1 (by omega) (by omega)
          have d2 := hdig 2 (by omega) (by omega)
          rw [Int.add_zero] at d0
          rw [Int.add_assoc, show (1 : Int) + 1 = 2 by decide] at d1
          rw [Int.add_assoc, show (1 : Int) + 2 = 3 by decide] at d2
          rw [Int.add_assoc, show (1 : Int) + 3 = 4 by decide] at hb ⊢
          unfold fG; omega
      have g1 : gok (m_upd s1 23 3 (s1 23 3 + 1)) (26 + 2 * s 23 4) := gok_cong (fun x => upd_nc (by omega)) (fun x => upd_nc (by omega)) e5
      refine t_X2_readGuest_52 (ty_rg n0 hc6) hi (by omega) (by omega) (fun _ => hs1) (by omega) (fun _ q => bad (by omega)) (fun _ _ _ => g1) (fun _ q1 q2 => ?_) (fun _ q1 q2 => bad (by omega))
      rw [hsg1] at q1 q2 ⊢
      have hlt : s 23 3 + 1 + i < s 23 2 := cc.2.2 (by omega)
      refine ih (i + 1) (by omega) (by omega) (by omega) hc6 hk0 (fun c c0 c1 => ?_) _ _ (fun c j x1 x2 x3 => ?_) ?_ ?_ (by omega) (gok_wg g1) ?_ (fun c c0 c1 => ?_)
      · by_cases hc : c = i
        · subst hc; exact ⟨q1, q2⟩
        · exact hdig c c0 (by omega)
      · rw [wg_o x2 x3, upd_o2 (by omega)]
        exact e1 c j x1 x2 x3
      · rw [wg_o (by omega) (by omega), upd_eq, e2]
        omega
      · rw [wg_o (by omega) (by omega), upd_nj (by decide)]
        exact e3
      · rw [wg_1, upd_nc (by omega)]
        exact e6
      · rw [wg_w]
        by_cases hc : c = i
        · rw [if_pos hc, hc]
          unfold cl
          omega
        · rw [if_neg hc, upd_nc (by omega)]
          exact e7 c c0 (by omega)
  have e : m_upd s 23 3 (s 23 3 + 1) (26 + 2 * s 23 4 + 1) = s (26 + 2 * s 23 4 + 1) := upd_fun (by omega)
  refine t_X2_readGuest n0 h (by rw [hsg]; omega) (fun q => k _ _ (same _ (by rw [hsg] at q; unfold fG; omega) (by omega))) (by omega) (by rw [hsg]; omega) (fun q1 q2 => ?_) (fun q1 q2 => ?_) (fun q1 q2 => k _ _ (same _ (by unfold fG; omega) (by omega)))
  · rw [e]
    exact (hg _ n0 q2).wr
  · rw [hsg] at q1 ⊢
    rw [e]
    have hlt : s 23 3 < s 23 2 := hp
    refine loop 4 0 (by omega) rfl (by omega) q2 q1 (fun c c0 c1 => by omega) _ _ (fun c j x1 x2 x3 => ?_) ?_ ?_ (by omega) ?_ ?_ (fun c c0 c1 => by omega)
    · rw [upd_nc x2, upd_nc x2, upd_o2 (by omega)]
    · rw [upd_nc (by omega), upd_nc (by omega), upd_eq]; omega
    · rw [upd_nc (by omega), upd_nc (by omega), upd_nj (by decide)]
    · have g0 := hg _ n0 q2
      refine ⟨?_, ?_, ?_, fun c c0 c1 => ?_⟩
      · rw [upd_nj (by decide), upd_eq]; exact q1
      · rw [upd_nj (by decide), upd_eq]; omega
      · rw [upd_eq, upd_nj (by decide), upd_eq]
        refine hset_cong fun c c0 c1 => ?_
        rw [upd_nc (by omega), upd_nc (by omega), upd_nc (by omega)]
      · rw [upd_nc (by omega), upd_nc (by omega), upd_nc (by omega)]
        exact g0.2.2.2 c c0 c1
    · rw [upd_nj (by decide), upd_eq]
end RDD
