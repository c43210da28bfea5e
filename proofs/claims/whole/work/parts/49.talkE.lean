/-! the searches, over the cells -/
def wOf (s : m_St) : Int → Int := fun j => if j < 4 then s 68 j else s 70 (j - 4)
theorem tpr_of {s : m_St} (h : tkok s) : tpr s (s 67 1) (s 69 1) (s 66 2) (wOf s) := ⟨h, rfl, rfl, rfl, fun c c0 c1 => by
  unfold wOf
  rw [if_pos c1, if_neg (by omega), show 4 + c - 4 = c by omega]
  exact ⟨rfl, rfl⟩⟩
def qRe (s : m_St) (n v : Int) (s' : m_St) : Prop := (∀ c j, ¬ c = 71 → s' c j = s c j) ∧ (match rF (s 67 1) (s 69 1) (s 66 2) (s 66 4) n.toNat (wOf s) with
  | none => v = 0
  | some p => v = 1 ∧ ∀ i : Nat, i < p.length → s' 71 i = p.getD i 0)
def taS (s : m_St) (n t : Int) : m_St := m_upd (m_upd s 66 5 (s 66 5 + t * cT (s 67 1) (s 69 1) (s 66 2) (s 66 4) n.toNat (wOf s))) 66 6 (iAnd (s 66 6) (iT (s 67 1) (s 69 1) (s 66 2) (s 66 4) n.toNat (wOf s)))
def bFs (s : m_St) (n fl : Int) : Int := bF (s 67 1) (s 69 1) (s 66 2) n.toNat fl (wOf s)
theorem inR_bFs (s : m_St) (n fl : Int) : inR (bFs s n fl) := by
  have := bF_r (s 67 1) (s 69 1) (s 66 2) n.toNat fl (wOf s)
  unfold bFs
  omega
def brok (s : m_St) : Prop := tkok s ∧ 0 ≤ s 66 8 ∧ s 66 8 ≤ 6 ∧ 0 ≤ s 66 9 ∧ s 66 9 ≤ 12 ∧ ∀ i, 0 ≤ i → i < 6 → inR (s 72 i)
def brS (s : m_St) : m_St := fun c j => if c = 73 then s 73 j + dF (s 67 1) (s 69 1) (s 66 2) (s 66 9) (s 72) (s 66 8).toNat 0 (wOf s) j else s c j
section TKE
variable {X : List Int32} {d : Nat} {s : m_St} {P : Option Value → m_St → Prop} {n t fl : Int}
theorem sp_reaches (h : tkok s) (n0 : 0 ≤ n) (n5 : n ≤ 5) (h4 : inR (s 66 4)) (k : ∀ v s', qRe s n v s' → P (some (vI v)) s') : Cl X (d + 12) 112 [vR 66, vI 0, vI n] s P := by
  refine Cl.up (d := d + 5 + n.toNat) ?_ (by omega)
  refine sp_reaches0 (P := P) n.toNat d 0 n s _ (by omega) n5 (by omega) (tpr_of h) h4 P (fun v s' q1 q2 q3 => k v s' ⟨q1, ?_⟩)
  revert q3
  cases rF (s 67 1) (s 69 1) (s 66 2) (s 66 4) n.toNat (wOf s) with
  | none => exact fun q => q
  | some p => exact fun q => ⟨q.1, fun i hi => by have := q.2 i hi; rw [Int.zero_add] at this; exact this⟩
theorem sp_tryAll (h : tkok s) (n0 : 0 ≤ n) (n5 : n ≤ 5) (h4 : inR (s 66 4)) (i0 : 0 ≤ s 66 6) (i1 : s 66 6 < 16) (k : P none (taS s n t)) : Cl X (d + 12) 118 [vR 66, vI n, vJ t] s P := by
  refine Cl.up (d := d + 5 + n.toNat) ?_ (by omega)
  refine sp_tryAll0 n.toNat d n t s _ (by omega) (by omega) (tpr_of h) h4 i0 i1 P (fun s' q1 q2 q3 => ?_)
  have : s' = taS s n t := by
    funext c j
    unfold taS m_upd
    by_cases h6 : c = 66 ∧ j = 6
    · rw [if_pos h6, h6.1, h6.2]; exact q3
    · rw [if_neg h6]
      by_cases h5 : c = 66 ∧ j = 5
      · rw [if_pos h5, h5.1, h5.2]; exact q2
      · rw [if_neg h5]
        exact q1 c j (by omega)
  rw [this]
  exact k
theorem sp_bestFor (h : tkok s) (n0 : 0 ≤ n) (n5 : n ≤ 5) (k : P (some (vI (bFs s n 1))) s) : Cl X (d + 12) 134 [vR 66, vI n, vI 1] s P := by
  refine Cl.up (d := d + 5 + n.toNat) ?_ (by omega)
  exact sp_bestFor0 n.toNat d n 1 s _ (by omega) (by omega) (tpr_of h) (Or.inr rfl) P k
theorem sp_branch (h : brok s) (k : P none (brS s)) : Cl X (d + 12) 137 [vR 66, vI 0, vJ 1] s P := by
  obtain ⟨h1, h2, h3, h4, h5, h6⟩ := h
  refine Cl.up (d := d + 5 + (s 66 8).toNat) ?_ (by omega)
  refine sp_branch0 (s 66 8).toNat d 0 1 s _ (by omega) (by omega) h3 (tpr_of h1) h4 h5 h6 P (fun s' q1 q2 => ?_)
  have : s' = brS s := by
    funext c j
    unfold brS
    by_cases hc : c = 73
    · rw [if_pos hc, hc, q2, Int.one_mul]
    · rw [if_neg hc]
      exact q1 c j hc
  rw [this]
  exact k
end TKE
