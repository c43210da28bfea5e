/-! the law's own methods: hearing, putting a sign -/
section SLC
variable {X : m_X} {d : Nat} {s : m_St} {P : Option Value → m_St → Prop} {m k p c a : Int}
theorem sp_hearsL (hU : 2 ≤ X.2) (ht : trL (s 38 5) (s 77) m.toNat) (m0 : 0 ≤ m) (m5 : m ≤ 5) (hp : ∀ j, 0 ≤ j → j < 2 * m → inR (s 77 j)) (k0 : 0 ≤ k) (k6 : k < 6) (p0 : 0 ≤ p) (p1 : p + 3 < 30) (hw : ∀ c, 0 ≤ c → c < 4 → 0 ≤ s 78 (p + c) ∧ s 78 (p + c) ≤ 20) (c0 : 0 ≤ c) (c4 : c < 4) (kk : P none (m_upd s 78 (p + c) (cl (s 78 (p + c) + mv k (hset (fun c => s 78 (p + c)) (hf k)) (s 38 5) c)))) : Cl X (d + 2) 166 [vI m, vR 77, vI k, vR 78, vI p, vI c] s P := by
  have hwr : wr (fun c => s 78 (p + c)) := fun c a b => by
    have := hw c a b
    show inR (s 78 (p + c))
    omega
  have hm := mv_r k (hset (fun c => s 78 (p + c)) (hf k)) (s 38 5) c
  have hc := hw c c0 c4
  have fin : ∀ v, v = cl (s 78 (p + c) + mv k (hset (fun c => s 78 (p + c)) (hf k)) (s 38 5) c) → P none (m_upd s 78 (p + c) v) := fun v hv => by rw [hv]; exact kk
  unfold cl at fin
  clear kk
  apply t_L_hears hU <;> intros
  all_goals first | exact ht | (exact hp _ (by assumption) (by assumption)) | exact hwr | omega | (refine fin _ ?_; omega)
theorem sp_putL (h : s 11 0 = 60) (j0 : 0 ≤ a) (j1 : a < 60) (hb : s 13 a = 32) (k : P (some (vI (a + 1))) (m_upd s 13 a (i2B c))) : Cl X (d + 6) 161 [vR 0, vI a, vI c] s P := by
  apply t_L_put <;> intros
  all_goals first | exact h | exact hb | exact k | omega
end SLC
