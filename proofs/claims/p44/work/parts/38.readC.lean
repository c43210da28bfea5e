/-! the class reads: wood, reasons, guests -/
def rgk (s : m_St) : Prop := ∀ i, 0 ≤ i → i < 6 → gok s (26 + 2 * i)
def opR (s : m_St) (t : Int) : m_St := m_upd (m_upd (m_upd (m_upd (cpf (m_upd s 23 2 (s 11 t)) 25 (s 11 t) (s (13 + t))) 23 3 0) 23 4 0) 23 5 0) 23 6 0
/-- of what was read only the place, wood and reasons may have changed -/
def wkR (s s' : m_St) : Prop := (∀ c j, ¬ (c = 23 ∧ (j = 3 ∨ j = 5 ∨ j = 6)) → s' c j = s c j) ∧ 0 ≤ s' 23 3 ∧ s' 23 3 ≤ s 23 2
def qW (s : m_St) (v : Int) (s' : m_St) : Prop := v = fW (s 23 2) (s 25) (s 23 3) ∧ wkR s s' ∧ (v = -9 → s' 23 3 = s 23 3 + 3 ∧ s' 23 6 = s 23 6 ∧ s' 23 5 = 10 * (at_ (s 23 2) (s 25) (s 23 3 + 1) - 48) + (at_ (s 23 2) (s 25) (s 23 3 + 2) - 48))
def qR (s : m_St) (v : Int) (s' : m_St) : Prop := v = fR (s 23 2) (s 25) (s 23 3) ∧ wkR s s' ∧ (v = -9 → s' 23 3 = s 23 3 + 3 ∧ s' 23 5 = s 23 5 ∧ s' 23 6 = iOr (s 23 6) (iShl 1 (4 * (at_ (s 23 2) (s 25) (s 23 3 + 2) - 48) + (at_ (s 23 2) (s 25) (s 23 3 + 1) - 48))))
/-- only the place, the number of guests, and guest c may have changed -/
def wkG (s : m_St) (c0 : Int) (s' : m_St) : Prop := (∀ c j, ¬ (c = 23 ∧ (j = 3 ∨ j = 4)) → ¬ c = 26 + 2 * c0 → ¬ c = 26 + 2 * c0 + 1 → s' c j = s c j) ∧ 0 ≤ s' 23 3 ∧ s' 23 3 ≤ s 23 2 ∧ rgk s'
def qG (s : m_St) (v : Int) (s' : m_St) : Prop := v = fG (s 23 2) (s 25) (s 23 3) (s 23 4) ∧ (wkG s (s 23 4) s' ∧ (6 ≤ s 23 4 → s' = s)) ∧ (v = -9 → s' 23 3 = s 23 3 + 5 ∧ s' 23 4 = s 23 4 + 1 ∧ s' (26 + 2 * s 23 4) 1 = kOf (at_ (s 23 2) (s 25) (s 23 3)) ∧ ∀ c, 0 ≤ c → c < 4 → s' (26 + 2 * s 23 4 + 1) c = at_ (s 23 2) (s 25) (s 23 3 + 1 + c) - 48)
section RDC
variable {X : m_X} {d : Nat} {s : m_St} {P : Option Value → m_St → Prop} {t : Int}
theorem sp_openR (h0 : 0 ≤ t) (h4 : t < 4) (ht : tok (s 11 t) (s (13 + t))) (k : P none (opR s t)) : Cl X (d + 5) 32 [vR 23, vR 10, vI t] s P := by
  obtain ⟨n0, n6, nb⟩ := ht
  refine t_X2_open h0 h4 (by omega) (by omega) (by omega) ?_
  rw [show min (s 11 t) 60 = s 11 t by omega]
  have main : Rn X (d + 5) 32 16 [some (vR 23), some (vR 10), some (vI t), some (vI 0)] [] (cpf (m_upd s 23 2 (s 11 t)) 25 0 (s (13 + t))) P := by
    have e : ∀ i c j, ¬ c = 25 → ¬ c = 23 → cpf (m_upd s 23 2 (s 11 t)) 25 i (s (13 + t)) c j = s c j := fun i c j h1 h2 => by rw [cpf_o h1, upd_nc h2]
    have e2 : ∀ i, cpf (m_upd s 23 2 (s 11 t)) 25 i (s (13 + t)) 23 2 = s 11 t := fun i => by rw [cpf_o (by omega), upd_eq]
    refine up_loop (fun i => Rn X (d + 5) 32 16 [some (vR 23), some (vR 10), some (vI t), some (vI i)] [] (cpf (m_upd s 23 2 (s 11 t)) 25 i (s (13 + t))) P) (s 11 t) n0 ?_ ?_
    · intro i hi hin hnext
      have q1 := e i 11 t (by omega) (by omega)
      have q2 := e2 i
      have q3 := e i (13 + t) i (by omega) (by omega)
      apply t_X2_open_16 h0 h4 (by rw [q1]; omega) hi <;> intros <;> first | omega | skip
      rw [q3, cpf_up hi]
      exact hnext
    · have q1 := e (s 11 t) 11 t (by omega) (by omega)
      have q2 := e2 (s 11 t)
      apply t_X2_open_16 h0 h4 (by rw [q1]; omega) n0 <;> intros <;> first | omega | exact k
  rw [cpf_0] at main
  exact main
theorem sp_skipBlanks (h : sok s) (k : P none (m_upd s 23 3 (skb (s 23 2) (s 25) (s 23 3)))) : Cl X (d + 1) 34 [vR 23] s P := by
  obtain ⟨a0, a1, a2, a3, a4⟩ := id h
  refine t_X2_skipBlanks ?_
  have key : ∀ (m : Nat) (i q : Int), 0 ≤ i → i + m ≤ 60 → 0 ≤ q → (s 23 2 - q).toNat = m → (q ≤ s 23 2 ∨ q = s 23 3) → P none (m_upd s 23 3 (skb (s 23 2) (s 25) q)) → Rn X (d + 1) 34 2 [some (vR 23), some (vI i)] [] (m_upd s 23 3 q) P := by
    intro m
    induction m with
    | zero =>
      intro i q hi hm hq hz hqn hk
      rw [skb_no (by omega)] at hk
      have hsok := sok_upd (q := q) h hq (by omega)
      have hs := sgn_r hsok
      have h32 : ¬ sgn (m_upd s 23 3 q) = 32 := by rw [sgn_upd]; unfold at_; rw [if_neg (by omega)]; omega
      exact t_X2_skipBlanks_2 ⟨by omega, by omega⟩ (fun _ => hk) (fun _ => hsok) (by omega) (fun _ _ => hk) (fun _ q => absurd q h32)
    | succ m ih =>
      intro i q hi hm hq hz hqn hk
      have hsok := sok_upd (q := q) h hq (by omega)
      have hs := sgn_r hsok
      have hsg : sgn (m_upd s 23 3 q) = s 25 q := by rw [sgn_upd]; unfold at_; rw [if_pos (by omega)]
      refine t_X2_skipBlanks_2 ⟨by omega, by omega⟩ (by omega) (fun _ => hsok) (by omega) (fun _ hne => ?_) (fun _ he => ?_)
      · rw [skb_no (by rw [hsg] at hne; omega)] at hk
        exact hk
      · rw [hsg] at he
        rw [skb_up (by omega) he] at hk
        rw [upd_eq, upd2]
        exact ih (i + 1) (q + 1) (by omega) (by omega) (by omega) (by omega) (by omega) hk
  have := key (s 23 2 - s 23 3).toNat 0 (s 23 3) (by omega) (by omega) a0 rfl (Or.inr rfl) k
  rw [upd_self] at this
  exact this
theorem sp_readWood (h : sok s) (hp : s 23 3 ≤ s 23 2) (k : ∀ v s', qW s v s' → P (some (vI v)) s') : Cl X (d + 2) 36 [vR 23] s P := by
  obtain ⟨a0, a1, a2, a3, a4⟩ := id h
  have T := t_X2_readWood (X := X) (d := d) (s := s) (P := P)
  simp only [upd2, sgn_upd, Int.add_assoc, Int.reduceAdd] at T
  simp only [sgn] at T
  have b0 : ∀ p, 0 ≤ p → -128 ≤ at_ (s 23 2) (s 25) p ∧ at_ (s 23 2) (s 25) p ≤ 1000 := fun p hp => by
    unfold at_
    split
    · have := a4 p hp (by assumption); omega
    · omega
  have c0 := b0 (s 23 3) a0
  have c1 := b0 (s 23 3 + 1) (by omega)
  have c2 := b0 (s 23 3 + 2) (by omega)
  have l0 : at_ (s 23 2) (s 25) (s 23 3) ≤ 900 → s 23 3 < s 23 2 := fun h => by unfold at_ at h; split at h <;> omega
  have l1 : at_ (s 23 2) (s 25) (s 23 3 + 1) ≤ 900 → s 23 3 + 1 < s 23 2 := fun h => by unfold at_ at h; split at h <;> omega
  have l2 : at_ (s 23 2) (s 25) (s 23 3 + 2) ≤ 900 → s 23 3 + 2 < s 23 2 := fun h => by unfold at_ at h; split at h <;> omega
  have w : ∀ q u : Int, 0 ≤ q → q ≤ s 23 2 → wkR s (m_upd (m_upd s 23 3 q) 23 5 u) := fun q u q0 q1 => ⟨fun c j hc => by rw [upd_o2 (by omega), upd_o2 (by omega)], by rw [upd_nj (by decide), upd_eq]; exact q0, by rw [upd_nj (by decide), upd_eq]; exact q1⟩
  have w1 : ∀ q : Int, 0 ≤ q → q ≤ s 23 2 → wkR s (m_upd s 23 3 q) := fun q q0 q1 => ⟨fun c j hc => upd_o2 (by omega), by rw [upd_eq]; exact q0, by rw [upd_eq]; exact q1⟩
  have w0 : wkR s s := ⟨fun _ _ _ => rfl, a0, hp⟩
  apply T <;> intros
  all_goals first | exact h | omega | (exact sok_upd h (by omega) (by omega)) | skip
  all_goals refine k _ _ ⟨by unfold fW; omega, by first | exact w0 | (exact w1 _ (by omega) (by omega)) | (exact w _ _ (by omega) (by omega)), fun hv => ?_⟩
  all_goals first | omega | skip
  refine ⟨by rw [upd_nj (by decide), upd_eq], ?_, upd_eq⟩
  rw [upd_nj (by decide), upd_nj (by decide)]
end RDC
