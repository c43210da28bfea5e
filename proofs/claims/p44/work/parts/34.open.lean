/-! going on from what was kept; opening a hut that was read -/
theorem cpf_o {s : m_St} {c n a j : Int} {f : Int → Int} (h : ¬ a = c) : cpf s c n f a j = s a j := if_neg fun z => h z.1
theorem cpf_in {s : m_St} {c n j : Int} {f : Int → Int} (h0 : 0 ≤ j) (h1 : j < n) : cpf s c n f c j = f j := if_pos ⟨rfl, h0, h1⟩
def gof (s : m_St) (k : Int) : m_St := gb (cpf s 41 (s 18 k) (s (20 + k))) (s 18 k)
def up3 (s : m_St) : m_St := m_upd (m_upd (m_upd s 38 3 (min (s 23 4) 6)) 38 4 (s 23 5)) 38 5 (s 23 6)
def ro (s : m_St) : Nat → m_St
  | 0 => up3 s
  | n + 1 => lk (ro s n) (42 + 4 * n) (26 + 2 * n) (ro s n (26 + 2 * n) 1)
theorem ro_up {s : m_St} {i : Int} (h : 0 ≤ i) : ro s (i + 1).toNat = lk (ro s i.toNat) (42 + 4 * i) (26 + 2 * i) (ro s i.toNat (26 + 2 * i) 1) := by
  rw [show (i + 1).toNat = i.toNat + 1 by omega]
  show lk (ro s i.toNat) (42 + 4 * (i.toNat : Int)) (26 + 2 * (i.toNat : Int)) (ro s i.toNat (26 + 2 * (i.toNat : Int)) 1) = _
  rw [Int.toNat_of_nonneg h]
theorem ro_o {s : m_St} {c j : Int} (h : ¬ (42 ≤ c ∧ 2 ≤ c % 4)) : ∀ n : Nat, ro s n c j = up3 s c j := by
  intro n
  induction n with
  | zero => rfl
  | succ n ih =>
    show lk (ro s n) (42 + 4 * n) (26 + 2 * n) (ro s n (26 + 2 * n) 1) c j = _
    rw [lk_o (by omega) (by omega)]
    exact ih
theorem ro_o2 {s : m_St} {c j : Int} (n : Nat) (h : ¬ (42 ≤ c ∧ c < 42 + 4 * n)) : ro s n c j = up3 s c j := by
  induction n with
  | zero => rfl
  | succ n ih =>
    show lk (ro s n) (42 + 4 * n) (26 + 2 * n) (ro s n (26 + 2 * n) 1) c j = _
    rw [lk_o (by omega) (by omega)]
    exact ih (by omega)
theorem up3_o {s : m_St} {c j : Int} (h : ¬ c = 38) : up3 s c j = s c j := by unfold up3; rw [upd_nc h, upd_nc h, upd_nc h]
/-- what was read is in order -/
def rok (s : m_St) : Prop := 0 ≤ s 23 4 ∧ s 23 4 ≤ 6 ∧ 0 ≤ s 23 5 ∧ s 23 5 ≤ 40 ∧ ∀ i, 0 ≤ i → i < s 23 4 → 0 ≤ s (26 + 2 * i) 1 ∧ s (26 + 2 * i) 1 < 6 ∧ ∀ c, 0 ≤ c → c < 4 → 0 ≤ s (26 + 2 * i + 1) c ∧ s (26 + 2 * i + 1) c ≤ 20
theorem ro_in {s : m_St} : ∀ n : Nat, n ≤ 6 → ∀ i : Int, 0 ≤ i → i < n → ro s n (42 + 4 * i) 1 = s (26 + 2 * i) 1 ∧ ∀ c, 0 ≤ c → c < 4 → ro s n (42 + 4 * i + 1) c = s (26 + 2 * i + 1) c := by
  intro n
  induction n with
  | zero => intro _ i h0 h1; omega
  | succ n ih =>
    intro hn i h0 h1
    have o1 : ∀ j, ro s n (26 + 2 * (n : Int)) j = s (26 + 2 * n) j := fun j => by rw [ro_o (by omega) n, up3_o (by omega)]
    have o2 : ∀ j, ro s n (26 + 2 * (n : Int) + 1) j = s (26 + 2 * n + 1) j := fun j => by rw [ro_o (by omega) n, up3_o (by omega)]
    show lk (ro s n) (42 + 4 * n) (26 + 2 * n) (ro s n (26 + 2 * n) 1) (42 + 4 * i) 1 = _ ∧ ∀ c, 0 ≤ c → c < 4 → lk (ro s n) (42 + 4 * n) (26 + 2 * n) (ro s n (26 + 2 * n) 1) (42 + 4 * i + 1) c = _
    by_cases hi : i = n
    · subst hi
      exact ⟨by rw [lk_1, o1], fun c c0 c1 => by rw [lk_w c0 c1, o2]⟩
    · obtain ⟨b2, b3⟩ := ih (by omega) i h0 (by omega)
      exact ⟨by rw [lk_o (by omega) (by omega)]; exact b2, fun c c0 c1 => by rw [lk_o (by omega) (by omega)]; exact b3 c c0 c1⟩
def ro6 (s : m_St) : m_St := ro s (s 23 4).toNat
def ob (s : m_St) : m_St := gb (ro6 s) 0
theorem ro6_38 {s : m_St} (h : rok s) : ro6 s 38 3 = s 23 4 ∧ ro6 s 38 4 = s 23 5 ∧ ro6 s 38 5 = s 23 6 ∧ ∀ j, ¬ j = 3 → ¬ j = 4 → ¬ j = 5 → ro6 s 38 j = s 38 j := by
  have o : ∀ j, ro6 s 38 j = up3 s 38 j := fun j => ro_o (by omega) _
  have := h.2.1
  refine ⟨?_, ?_, ?_, fun j h3 h4 h5 => ?_⟩ <;> rw [o] <;> unfold up3
  · rw [upd_nj (by omega), upd_nj (by omega), upd_eq]
    omega
  · rw [upd_nj (by omega), upd_eq]
  · exact upd_eq
  · rw [upd_nj h5, upd_nj h4, upd_nj h3]
theorem ro6_bok {s : m_St} (h : rok s) (hg : ∀ i, 0 ≤ i → i < 6 → gok s (44 + 4 * i)) : bok (ro6 s) := by
  obtain ⟨q3, q4, q5, -⟩ := ro6_38 h
  obtain ⟨r0, r1, r2, r3, r4⟩ := h
  refine ⟨by rw [q3]; exact r0, by rw [q3]; exact r1, by rw [q4]; exact r2, by rw [q4]; exact r3, fun i h0 h1 => ?_, fun i h0 h6 => ?_⟩
  · rw [q3] at h1
    obtain ⟨e1, e2⟩ := ro_in (s := s) (s 23 4).toNat (by omega) i h0 (by omega)
    obtain ⟨a1, a2, a3⟩ := r4 i h0 h1
    unfold ro6
    rw [e1]
    exact ⟨a1, a2, fun c c0 c1 => by rw [e2 c c0 c1]; exact a3 c c0 c1⟩
  · exact gok_cong (fun j => by unfold ro6; rw [ro_o (by omega), up3_o (by omega)]) (fun j => by unfold ro6; rw [ro_o (by omega), up3_o (by omega)]) (hg i h0 h6)
theorem sp_open {X : m_X} {d : Nat} {s : m_St} {P : Option Value → m_St → Prop} (h : rok s) (hg : ∀ i, 0 ≤ i → i < 6 → gok s (44 + 4 * i)) (kk : P none (ob s)) : Cl X (d + 5) 48 [vR 38, vR 23] s P := by
  have hb := ro6_bok h hg
  obtain ⟨q3, -⟩ := ro6_38 h
  obtain ⟨r0, r1, r2, r3, r4⟩ := id h
  refine t_X1_open (by omega) ?_
  have o3 : ∀ n : Nat, ro s n 38 3 = s 23 4 := fun n => by
    rw [ro_o (by omega)]
    unfold up3
    rw [upd_nj (by omega), upd_nj (by omega), upd_eq]
    omega
  refine up_loop (fun i => ∀ z : Option Value, Rn X (d + 5) 48 31 [some (vR 38), some (vR 23), some (vI i), z] [] (ro s i.toNat) P) (s 23 4) r0 ?_ ?_ none
  · intro i hi hin hnext z
    have e3 := o3 i.toNat
    have e1 : ∀ j, ro s i.toNat (26 + 2 * i) j = s (26 + 2 * i) j := fun j => by rw [ro_o (by omega), up3_o (by omega)]
    have e2 : ∀ j, ro s i.toNat (26 + 2 * i + 1) j = s (26 + 2 * i + 1) j := fun j => by rw [ro_o (by omega), up3_o (by omega)]
    have e11 := e1 1
    obtain ⟨a1, a2, a3⟩ := r4 i hi hin
    rw [ro_up hi] at hnext
    refine t_X1_open_31 hi (by omega) (by omega) (by omega) (by omega) (by omega) (by omega) (by omega) (by omega) (by omega) (by omega) (by omega) (by omega) (fun _ _ => ?_) (fun _ _ => hnext _)
    intro c c0 c1
    rw [e2]
    have := a3 c c0 c1
    omega
  · intro z
    have e3 := o3 (s 23 4).toNat
    refine t_X1_open_31 r0 (by omega) (by omega) (fun _ => hb) (fun _ k hk => by omega) (fun _ => kk) (by omega) (by omega) (by omega) (by omega) (by omega) (by omega) (by omega) (by omega) (by omega)
