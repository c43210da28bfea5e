/-! the reference counts talks one after another -/
noncomputable def lvW (k0 k1 R c : Int) (m : Nat) (w : Int → Int) (x : Int × Int) : Int × Int := (x.1 + gC k0 k1 R c m w, iAnd x.2 (gI k0 k1 R c m w))
noncomputable def cdW (k0 k1 R c : Int) (m : Nat) (w : Int → Int) (a : Int) (x : Int × Int) : Int × Int := @ite _ (cnb k0 k1 w a) (Classical.propDecidable _) (lvW k0 k1 R c m (utw k0 k1 R w a) x) x
theorem cdW_y {k0 k1 R c a : Int} {m : Nat} {w : Int → Int} {x : Int × Int} (h : cnb k0 k1 w a) : cdW k0 k1 R c m w a x = lvW k0 k1 R c m (utw k0 k1 R w a) x := @if_pos _ (Classical.propDecidable _) h _ _ _
theorem cdW_n {k0 k1 R c a : Int} {m : Nat} {w : Int → Int} {x : Int × Int} (h : ¬ cnb k0 k1 w a) : cdW k0 k1 R c m w a x = x := @if_neg _ (Classical.propDecidable _) h _ _ _
noncomputable def tlW (k0 k1 R c : Int) (m : Nat) (w : Int → Int) : Nat → Int → Int × Int → Int × Int
  | 0, _, x => x
  | k + 1, a, x => tlW k0 k1 R c m w k (a + 1) (cdW k0 k1 R c m w a x)
theorem tlW_8 {k0 k1 R c : Int} {m : Nat} {w : Int → Int} {x : Int × Int} (hx : 0 ≤ x.2 ∧ x.2 < 16) : tlW k0 k1 R c m w 8 0 x = lvW k0 k1 R c (m + 1) w x := by
  have go : ∀ (k j : Nat), j + k = 8 → tlW k0 k1 R c m w k j (x.1 + sm (fun a => @ite _ (cnb k0 k1 w a) (Classical.propDecidable _) (gC k0 k1 R c m (utw k0 k1 R w a)) 0) j, iAnd x.2 (an (fun a => @ite _ (cnb k0 k1 w a) (Classical.propDecidable _) (gI k0 k1 R c m (utw k0 k1 R w a)) 15) 15 j)) = lvW k0 k1 R c (m + 1) w x := by
    intro k
    induction k with
    | zero =>
      intro j hj
      have : j = 8 := by omega
      subst this
      rfl
    | succ k ih =>
      intro j hj
      have h := ih (j + 1) (by omega)
      rw [sm_s, an_s] at h
      show tlW k0 k1 R c m w k ((j : Int) + 1) (cdW k0 k1 R c m w j _) = _
      rw [show ((j + 1 : Nat) : Int) = (j : Int) + 1 by omega] at h
      rw [← h]
      congr 1
      by_cases hc : cnb k0 k1 w j
      · rw [cdW_y hc, if_pos hc, if_pos hc]
        unfold lvW
        rw [iAnd_assoc, Int.add_assoc]
      · rw [cdW_n hc, if_neg hc, if_neg hc, Int.add_zero, ← iAnd_assoc]
        have e : ∀ y, iAnd (iAnd x.2 y) 15 = iAnd x.2 y := fun y => by
          rw [iAnd_comm x.2 y, iAnd_assoc, iAnd_15 hx.1 hx.2]
        rw [e]
  have := go 8 0 rfl
  have e0 : (x.1 + sm (fun a => @ite _ (cnb k0 k1 w a) (Classical.propDecidable _) (gC k0 k1 R c m (utw k0 k1 R w a)) 0) 0, iAnd x.2 (an (fun a => @ite _ (cnb k0 k1 w a) (Classical.propDecidable _) (gI k0 k1 R c m (utw k0 k1 R w a)) 15) 15 0)) = x := by
    show (x.1 + 0, iAnd x.2 15) = x
    rw [Int.add_zero, iAnd_15 hx.1 hx.2]
  rw [e0] at this
  exact this
