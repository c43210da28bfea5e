/-! chances, the class -/
theorem tpr_cns {s : m_St} {k0 k1 R : Int} {w : Int → Int} (h : tpr s k0 k1 R w) (a : Int) : cns s a = 0 ↔ ¬ (0 ≤ a ∧ a < 8 ∧ ¬ iAnd (iShr (if a < 4 then hA k0 w else hB k1 w) (a % 4)) 1 = 0) := by
  obtain ⟨h1, h2⟩ := tpr_h h
  have e : s (if a < 4 then 67 else 69) 2 = (if a < 4 then hA k0 w else hB k1 w) := by
    split
    · exact h1
    · exact h2
  unfold cns
  rw [e]
  by_cases q : 0 ≤ a ∧ a < 8 ∧ ¬ iAnd (iShr (if a < 4 then hA k0 w else hB k1 w) (a % 4)) 1 = 0
  · rw [if_pos q]
    exact ⟨fun z => absurd z (by decide), fun z => absurd q z⟩
  · rw [if_neg q]
    exact ⟨fun _ => q, fun _ => rfl⟩
section TKD
variable {X : List Int32} {k0 k1 R : Int}
theorem sp_branch0 : ∀ (m : Nat) (d : Nat) (p t : Int) (s : m_St) (w : Int → Int), 0 ≤ p → p + m = s 66 8 → s 66 8 ≤ 6 → tpr s k0 k1 R w → 0 ≤ s 66 9 → s 66 9 ≤ 12 → (∀ i, 0 ≤ i → i < 6 → inR (s 72 i)) →
    ∀ P : Option Value → m_St → Prop, (∀ s' : m_St, (∀ c j, ¬ c = 73 → s' c j = s c j) → (∀ j, s' 73 j = s 73 j + t * dF k0 k1 R (s 66 9) (s 72) m p w j) → P none s') → Cl X (d + 5 + m) 137 [vR 66, vI p, vJ t] s P := by
  intro m
  induction m with
  | zero =>
    intro d p t s w p0 hpm h6 hp u0 u1 hsc P k
    obtain ⟨h1, h2, h3⟩ := tpr_tng hp
    have hs := shw_r k0 k1 w
    have hs15 := iAnd_15 hs.1 hs.2
    have hz : iAnd (iAnd (s 67 2) (s 69 2)) 15 = shw k0 k1 w := by rw [h2, hs15]
    apply t_X4_branch (d := d) p0 <;> intros
    all_goals first | omega | skip
    refine k _ (fun c j hc => upd_nc hc) (fun j => ?_)
    unfold dF
    rw [hs15, hz]
    unfold m_upd
    by_cases hj : j = shw k0 k1 w
    · rw [if_pos ⟨rfl, hj⟩, if_pos hj, hj, Int.mul_one]
    · rw [if_neg (fun z => hj z.2), if_neg hj, Int.mul_zero, Int.add_zero]
  | succ m ih =>
    intro d p t s w p0 hpm h6 hp u0 u1 hsc P k
    obtain ⟨h1, h2, h3⟩ := tpr_tng hp
    have hcn := tpr_cns hp (s 72 p)
    have hsp := hsc p p0 (by omega)
    unfold dF at k
    rw [show d + 5 + (m + 1) = d + (m + 1) + 5 by omega]
    apply t_X4_branch (d := d + (m + 1)) p0 <;> intros
    all_goals first | omega | skip
    · next g1 g2 g3 =>
      have hcan := Classical.not_not.mp (fun z => g3 (hcn.mpr z))
      rw [show d + (m + 1) + 4 = d + 5 + m by omega]
      refine ih d (p + 1) _ s w (by omega) (by omega) h6 hp u0 u1 hsc _ (fun s2 q1 q2 => ?_)
      show Rn X (d + (m + 1) + 5) 137 75 [some (vR 66), some (vI p), some (vJ t), none, some (vI (s 72 p)), none] [] s2 P
      have hp2 : tpr s2 k0 k1 R w := tpr_cong (fun c i c0 c1 => q1 c i (by omega)) (q1 66 2 (by omega)) hp
      have hpu := tpr_ut hp2 hcan.1 hcan.2.1
      have o66 : ∀ i, utS s2 (s 72 p) 66 i = s 66 i := fun i => by rw [utS_o (by omega)]; exact q1 66 i (by omega)
      have o72 : utS s2 (s 72 p) 72 = s 72 := funext fun i => by rw [utS_o (by omega)]; exact q1 72 i (by omega)
      refine t_X4_branch_75 (d := d + (m + 1)) p0 hcan.1 hcan.2.1 hp2.1 (by rw [o66]; omega) ?_
      rw [o66, show d + (m + 1) + 4 = d + 5 + m by omega]
      refine ih d (p + 1) _ _ _ (by omega) (by rw [o66]; omega) (by rw [o66]; exact h6) hpu (by rw [o66]; exact u0) (by rw [o66]; exact u1) (by rw [o72]; exact hsc) _ (fun s3 r1 r2 => ?_)
      show Rn X (d + (m + 1) + 5) 137 100 [some (vR 66), some (vI p), some (vJ t), none, some (vI (s 72 p)), some (vI (olw s2 (s 72 p)))] [] s3 P
      rw [o66, o72] at r2
      have hag : ∀ c i, 67 ≤ c → c ≤ 70 → s3 c i = utS s2 (s 72 p) c i := fun c i c0 c1 => r1 c i (by omega)
      have htb := tb_gen hp2.1 hcan.1 hag
      refine t_X4_branch_100 (d := d + (m + 1)) p0 hcan.1 hcan.2.1 (tkok_cong hag hpu.1) (olw_r hp2.1) (k _ (fun c j hc => ?_) (fun j => ?_))
      · rw [htb]
        split
        · exact q1 c j hc
        · rw [r1 c j hc, utS_o (by assumption)]
          exact q1 c j hc
      · rw [htb, if_neg (by omega), r2, utS_o (by omega), q2, if_pos hcan, Int.mul_add, ← Int.mul_assoc, ← Int.mul_assoc, Int.add_assoc]
    · next g1 g2 g3 =>
      have hcan := hcn.mp g3
      rw [show d + (m + 1) + 4 = d + 5 + m by omega]
      refine ih d (p + 1) _ s w (by omega) (by omega) h6 hp u0 u1 hsc _ (fun s2 q1 q2 => ?_)
      show Rn X (d + (m + 1) + 5) 137 60 [some (vR 66), some (vI p), some (vJ t), none, some (vI (s 72 p)), none] [] s2 P
      refine t_X4_branch_60 (d := d + (m + 1)) p0 (k s2 q1 (fun j => ?_))
      rw [q2, if_neg hcan, Int.mul_assoc]
end TKD
