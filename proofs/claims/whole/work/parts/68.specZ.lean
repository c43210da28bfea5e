/-! the reference: copying places, a mean, a text -/
section SPZ
variable {X : List Int32} {d : Nat} {s : m_St} {P : Option Value → m_St → Prop} {r j t k n u : Int}
def cpM (s : m_St) (r j t k n : Int) : m_St := rwr (rwr s 80 0 n (fun z => s 79 (40 * r + j + z))) 79 (40 * t + k) n (fun z => s 79 (40 * r + j + z))
theorem sp_copyM (h0 : 0 ≤ r) (h6 : r < 6) (t0 : 0 ≤ t) (t6 : t < 6) (j0 : 0 ≤ j) (k0 : 0 ≤ k) (n0 : 0 ≤ n) (jn : j + n ≤ 40) (kn : k + n ≤ 40) (kk : P (some (vI 1)) (cpM s r j t k n)) : Rn X (d + 2) 167 104 [some (vR 77), some (vI r), some (vI j), some (vI t), some (vI k), some (vI n), some (vI 0)] [] s P := by
  have loop2 : ∀ (m : Nat) (z : Int), 0 ≤ z → z + m = n → Rn X (d + 2) 167 141 [some (vR 77), some (vI r), some (vI j), some (vI t), some (vI k), some (vI n), some (vI z)] [] (rwr (rwr s 80 0 n (fun z => s 79 (40 * r + j + z))) 79 (40 * t + k) z (fun z => s 79 (40 * r + j + z))) P := by
    intro m
    induction m with
    | zero =>
      intro z z0 zm
      have : z = n := by omega
      subst this
      apply t_X6_copy_141 z0 h0 h6 t0 t6 <;> intros
      all_goals first | omega | exact kk
    | succ m ih =>
      intro z z0 zm
      apply t_X6_copy_141 z0 h0 h6 t0 t6 <;> intros
      all_goals first | omega | skip
      rw [rwr_nc (a := 80) (by decide), rwr_in (by omega), rwr_up z0 rfl (by rw [Int.sub_zero])]
      exact ih (z + 1) (by omega) (by omega)
  have loop : ∀ (m : Nat) (z : Int), 0 ≤ z → z + m = n → Rn X (d + 2) 167 104 [some (vR 77), some (vI r), some (vI j), some (vI t), some (vI k), some (vI n), some (vI z)] [] (rwr s 80 0 z (fun z => s 79 (40 * r + j + z))) P := by
    intro m
    induction m with
    | zero =>
      intro z z0 zm
      have : z = n := by omega
      subst this
      apply t_X6_copy_104 z0 h0 h6 t0 t6 <;> intros
      all_goals first | omega | skip
      have := loop2 z.toNat 0 (by omega) (by omega)
      rw [rwr_0] at this
      exact this
    | succ m ih =>
      intro z z0 zm
      apply t_X6_copy_104 z0 h0 h6 t0 t6 <;> intros
      all_goals first | omega | skip
      rw [rwr_nc (a := 79) (by decide), rwr_up z0 (by omega) rfl]
      exact ih (z + 1) (by omega) (by omega)
  have := loop n.toNat 0 (by omega) (by omega)
  rw [rwr_0] at this
  exact this
theorem sm_bd {f : Int → Int} (h : ∀ k : Nat, k < 40 → inR (f k)) : ∀ m : Nat, m ≤ 40 → -2147483648 * (m : Int) ≤ sm f m ∧ sm f m ≤ 2147483648 * (m : Int) := by
  intro m
  induction m with
  | zero => intro _; show _ ≤ (0 : Int) ∧ (0 : Int) ≤ _; omega
  | succ m ih =>
    intro hm
    rw [sm_s]
    have := ih (by omega)
    have := h m (by omega)
    omega
theorem sp_meanM (h0 : 0 ≤ r) (h6 : r < 6) (n0 : 0 < s 78 r) (n4 : s 78 r ≤ 40) (hw : ∀ k, 0 ≤ k → k < s 78 r → inR (s 79 (40 * r + k))) (kk : P (some (vI 1)) (m_upd s 77 11 (Int.tdiv (sm (fun k => s 79 (40 * r + k)) (s 78 r).toNat) (s 78 r)))) : Rn X (d + 2) 168 44 [some (vR 77), some (vI r), some (vJ 0), none, some (vI 0)] [] s P := by
  have bd : ∀ m : Nat, (m : Int) ≤ s 78 r → -2147483648 * (m : Int) ≤ sm (fun k => s 79 (40 * r + k)) m ∧ sm (fun k => s 79 (40 * r + k)) m ≤ 2147483648 * (m : Int) := by
    intro m
    induction m with
    | zero => intro _; show _ ≤ (0 : Int) ∧ (0 : Int) ≤ _; omega
    | succ m ih =>
      intro hm
      rw [sm_s]
      have := ih (by omega)
      have : inR (s 79 (40 * r + m)) := hw m (by omega) (by omega)
      omega
  have loop : ∀ (m : Nat) (k : Int), 0 ≤ k → k + m = s 78 r → Rn X (d + 2) 168 44 [some (vR 77), some (vI r), some (vJ (sm (fun k => s 79 (40 * r + k)) k.toNat)), none, some (vI k)] [] s P := by
    intro m
    induction m with
    | zero =>
      intro k k0 km
      have e : k = s 78 r := by omega
      have b := bd k.toNat (by omega)
      rw [← e] at kk
      apply t_X6_mean_44 h0 h6 k0 <;> intros
      all_goals first | omega | skip
      rw [← e]; exact kk
    | succ m ih =>
      intro k k0 km
      have b := bd k.toNat (by omega)
      have w := hw k k0 (by omega)
      have hx := ih (k + 1) (by omega) (by omega)
      rw [sm_up k0] at hx
      apply t_X6_mean_44 h0 h6 k0 <;> intros
      all_goals first | omega | exact hx
  exact loop (s 78 r).toNat 0 (by omega) (by omega)
theorem sp_textM (h0 : 0 ≤ t) (h4 : t < 4) (kk : P (some (vI n)) (rwr s 82 (60 * t) 60 (fun _ => 32))) : Rn X (d + 2) 169 34 [some (vR 77), some (vI t), some (vI n), some (vI 0)] [] s P := by
  have loop : ∀ (m : Nat) (k : Int), 0 ≤ k → k + m = 60 → Rn X (d + 2) 169 34 [some (vR 77), some (vI t), some (vI n), some (vI k)] [] (rwr s 82 (60 * t) k (fun _ => 32)) P := by
    intro m
    induction m with
    | zero =>
      intro k k0 km
      have : k = 60 := by omega
      subst this
      apply t_X6_text_34 h0 h4 k0 <;> intros
      all_goals first | omega | exact kk
    | succ m ih =>
      intro k k0 km
      apply t_X6_text_34 h0 h4 k0 <;> intros
      all_goals first | omega | skip
      rw [rwr_up k0 rfl rfl]
      exact ih (k + 1) (by omega) (by omega)
  have := loop 60 0 (by omega) (by omega)
  rw [rwr_0] at this
  exact this
end SPZ
