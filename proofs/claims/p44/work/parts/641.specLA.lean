/-! the law's own small methods: what is drawn, letters, who holds what, what follows -/
theorem iAnd_low (v : Int) : 0 ≤ iAnd v 2147483647 := by
  have h := bt_and v 2147483647 31
  have e : bt 2147483647 31 = false := by decide +kernel
  rw [e, Bool.and_false] at h
  by_cases hn : 0 ≤ iAnd v 2147483647
  · exact hn
  · exfalso
    have hr := inR_iAnd v 2147483647
    have hb : (Int32.ofInt (iAnd v 2147483647)).toBitVec.msb = true := by
      rw [BitVec.msb_eq_toInt]
      have : (Int32.ofInt (iAnd v 2147483647)).toBitVec.toInt = iAnd v 2147483647 := oI_toInt hr
      rw [this]
      exact decide_eq_true (by omega)
    rw [BitVec.msb_eq_getLsbD_last] at hb
    unfold bt at h
    rw [h] at hb
    cases hb
/-- what is drawn of v, below n -/
def lss (v n : Int) : Int := iAnd v 2147483647 % n
def ltr (k : Int) : Int := if k = 0 then 103 else if k = 1 then 98 else if k = 2 then 97 else if k = 3 then 109 else if k = 4 then 99 else 104
theorem inR_ltr (k : Int) : inR (ltr k) := by unfold ltr; omega
/-- is it told of c that z follows -/
def tld (f : Int → Int) : Nat → Int → Int → Int
  | 0, _, _ => 0
  | k + 1, c, z => if ¬ tld f k c z = 0 then 1 else if f (2 * (k : Int)) = c ∧ f (2 * (k : Int) + 1) = z then 1 else 0
theorem tld_b (f : Int → Int) (c z : Int) : ∀ k, tld f k c z = 0 ∨ tld f k c z = 1 := by
  intro k
  cases k with
  | zero => exact Or.inl rfl
  | succ k =>
    have e : tld f (k + 1) c z = if ¬ tld f k c z = 0 then (1 : Int) else if f (2 * (k : Int)) = c ∧ f (2 * (k : Int) + 1) = z then 1 else 0 := rfl
    rw [e]
    split
    · exact Or.inr rfl
    · split
      · exact Or.inr rfl
      · exact Or.inl rfl
theorem inR_tld (f : Int → Int) (k : Nat) (c z : Int) : inR (tld f k c z) := by have := tld_b f c z k; omega
theorem tld_up {f : Int → Int} {c z i : Int} (h : 0 ≤ i) : tld f (i + 1).toNat c z = if ¬ tld f i.toNat c z = 0 then 1 else if f (2 * i) = c ∧ f (2 * i + 1) = z then 1 else 0 := by
  rw [show (i + 1).toNat = i.toNat + 1 by omega]
  show (if ¬ tld f i.toNat c z = 0 then (1 : Int) else if f (2 * (i.toNat : Int)) = c ∧ f (2 * (i.toNat : Int) + 1) = z then 1 else 0) = _
  rw [show ((i.toNat : Nat) : Int) = i by omega]
theorem tld_cong {f g : Int → Int} {c z : Int} : ∀ k : Nat, (∀ j, 0 ≤ j → j < 2 * (k : Int) → f j = g j) → tld f k c z = tld g k c z := by
  intro k
  induction k with
  | zero => intro _; rfl
  | succ k ih =>
    intro h
    unfold tld
    rw [ih (fun j a b => h j a (by omega)), h (2 * (k : Int)) (by omega) (by omega), h (2 * (k : Int) + 1) (by omega) (by omega)]
theorem hset_at {f : Int → Int} {p t : Int} : hset (fun c => f (p + c)) t = (if t ≤ f p then 1 else 0) + (if t ≤ f (p + 1) then 2 else 0) + (if t ≤ f (p + 2) then 4 else 0) + (if t ≤ f (p + 3) then 8 else 0) := by
  unfold hset
  simp only [Int.add_zero]
section SLA
variable {X : m_X} {d : Nat} {s : m_St} {P : Option Value → m_St → Prop} {k v n p h m c z i : Int}
theorem sp_cell (rk : inR k) (k0 : 0 ≤ k) (hX : X.1.length < 2147483648) (kk : ∀ v, inR v → P (some (vI v)) s) : Cl X d 157 [vR 1000, vI k] s P := by
  have kk2 : P (some (vI (495397697 * (k + 1)))) s := by
    have := kk (Int32.ofInt (495397697 * (k + 1))).toInt (inR_toInt _)
    rw [vI_toInt] at this
    exact this
  apply t_L_cell hX <;> intros
  all_goals first | exact rk | exact kk2 | (exact kk _ (inR_toInt _)) | omega
theorem sp_less (rn : inR n) (n0 : 0 < n) (kk : ∀ w, 0 ≤ w → w < n → w = lss v n → P (some (vI w)) s) : Cl X d 158 [vI v, vI n] s P := by
  have h0 := iAnd_low v
  apply t_L_less <;> intros
  all_goals first | exact n0 | exact h0 | exact rn | skip
  exact kk _ (Int.emod_nonneg _ (by omega)) (Int.emod_lt_of_pos _ n0) rfl
theorem sp_letter (rk : inR k) (kk : P (some (vI (ltr k))) s) : Cl X d 162 [vI k] s P := by
  unfold ltr at kk
  apply t_L_letter <;> intros
  all_goals first | exact rk | (refine PI kk ?_; omega)
theorem sp_holdsL (hU : 2 ≤ X.2) (rk : inR k) (p0 : 0 ≤ p) (p1 : p + 3 < 30) (hw : wr (fun c => s 78 (p + c))) (kk : P (some (vI (hset (fun c => s 78 (p + c)) (hf k)))) s) : Cl X d 164 [vI k, vR 78, vI p] s P := by
  have w0 : inR (s 78 p) := by have := hw 0 (by omega) (by omega); simpa using this
  have w1 : inR (s 78 (p + 1)) := hw 1 (by omega) (by omega)
  have w2 : inR (s 78 (p + 2)) := hw 2 (by omega) (by omega)
  have w3 : inR (s 78 (p + 3)) := hw 3 (by omega) (by omega)
  have step : ∀ h, inR h → P (some (vI (hset (fun c => s 78 (p + c)) h))) s → Rn X d 164 21 [some (vI k), some (vR 78), some (vI p), some (vI h), none, none] [] s P := by
    intro h rh kh
    rw [hset_at] at kh
    apply t_L_holds_21 hU <;> intros
    all_goals first | exact rh | exact w0 | exact w1 | exact w2 | exact w3 | omega | (refine PI kh ?_; omega)
  apply t_L_holds hU <;> intros
  all_goals first | exact rk | (refine step _ (by omega) ?_)
  · rw [show hf k = 5 by unfold hf; omega] at kk; exact kk
  · rw [show hf k = 3 by unfold hf; omega] at kk; exact kk
  · rw [show hf k = 7 by unfold hf; omega] at kk; exact kk
theorem sp_told (hU : 2 ≤ X.2) (m0 : 0 ≤ m) (m5 : m ≤ 5) (hw : ∀ j, 0 ≤ j → j < 2 * m → inR (s 77 j)) (rc : inR c) (rz : inR z) (kk : P (some (vI (tld (s 77) m.toNat c z))) s) : Cl X d 168 [vI m, vR 77, vI c, vI z] s P := by
  have loop : ∀ (q : Nat) (i : Int), 0 ≤ i → i + q = m → Rn X d 168 6 [some (vI m), some (vR 77), some (vI c), some (vI z), some (vI (tld (s 77) i.toNat c z)), some (vI i)] [] s P := by
    intro q
    induction q with
    | zero =>
      intro i i0 im
      obtain rfl : i = m := by omega
      have hb := tld_b (s 77) c z i.toNat
      apply t_L_told_6 hU <;> intros
      all_goals first | exact kk | exact hb | omega
    | succ q ih =>
      intro i i0 im
      have hb := tld_b (s 77) c z i.toNat
      have w0 := hw (2 * i) (by omega) (by omega)
      have w1 := hw (2 * i + 1) (by omega) (by omega)
      have hn := ih (i + 1) (by omega) (by omega)
      rw [tld_up i0] at hn
      apply t_L_told_6 hU <;> intros
      all_goals first | exact rc | exact rz | exact w0 | exact w1 | omega | skip
      · next g1 g2 => rw [if_pos g2] at hn; exact hn
      · next g1 g2 g3 => rw [if_neg (fun q => q g2), if_neg (fun q => g3 q.1)] at hn; exact hn
      · next g1 g2 g3 g4 => rw [if_neg (fun q => q g2), if_neg (fun q => g4 q.2)] at hn; exact hn
      · next g1 g2 g3 g4 => rw [if_neg (fun q => q g2), if_pos ⟨g3, g4⟩] at hn; exact hn
  apply t_L_told hU <;> intros
  exact loop m.toNat 0 (by omega) (by omega)
end SLA
