/-! all that hold; closed sets: the nearest -/
def ahM (s : m_St) : Int := an (fun i => hld (s 83) i) (if 0 < s 83 0 then 15 else 0) (s 83 0).toNat
theorem ahM_r (s : m_St) : 0 ≤ ahM s ∧ ahM s < 16 := by
  unfold ahM
  refine an_r ?_ (fun i => hset_r _ _) _
  split <;> omega
theorem inR_ahM (s : m_St) : inR (ahM s) := by have := ahM_r s; omega
/-- the best of the closed sets between -/
def bch (h z : Int) : Int := bc (iXor z h)
def bst2 (R h lo hi w : Int) : Prop := (lo ≤ w ∧ w < hi ∧ clo R w = w) ∧ ∀ v, lo ≤ v → v < hi → clo R v = v → bch h w ≤ bch h v ∧ (bch h w = bch h v → w ≤ v)
theorem bst2_one {R h lo hi w w' : Int} (a : bst2 R h lo hi w) (b : bst2 R h lo hi w') : w = w' := by
  have h1 := a.2 w' b.1.1 b.1.2.1 b.1.2.2
  have h2 := b.2 w a.1.1 a.1.2.1 a.1.2.2
  omega
section OPK
variable {X : List Int32} {d : Nat} {s : m_St} {P : Option Value → m_St → Prop} {i h z R : Int}
theorem sp_allHold (hk : mok s) (kk : P (some (vI (ahM s))) s) : Cl X (d + 3) 251 [vR 77] s P := by
  have h00 := hk.1.1
  have h06 := hk.1.2.1
  have loop : ∀ (x : Int), x = (if 0 < s 83 0 then 15 else 0) → ∀ (m : Nat) (i : Int), 0 ≤ i → i + m = s 83 0 → Rn X (d + 3) 251 16 [some (vR 77), some (vI (an (fun i => hld (s 83) i) x i.toNat)), some (vI i)] [] s P := by
    intro x hx m
    induction m with
    | zero =>
      intro i i0 im
      have : i = s 83 0 := by omega
      subst this
      unfold ahM at kk
      rw [← hx] at kk
      apply t_X6_allHold_16 i0 <;> intros
      all_goals first | exact kk | omega
    | succ m ih =>
      intro i i0 im
      have hy := ih (i + 1) (by omega) (by omega)
      rw [an_up i0] at hy
      apply t_X6_allHold_16 i0 <;> intros
      all_goals first | exact hy | exact hk | omega
  apply t_X6_allHold <;> intros
  all_goals first | omega | skip
  · next g => exact loop 0 (by rw [if_neg (by omega)]) (s 83 0).toNat 0 (by omega) (by omega)
  · next g => exact loop 15 (by rw [if_pos g]) (s 83 0).toNat 0 (by omega) (by omega)
theorem clo_15 {Q : Int} (ht : tr R Q) : clo R 15 = 15 := by
  have r15 : r16 15 := ⟨by omega, by omega⟩
  have e := rok_cld (clr_rok ht) r15 cld_15
  show clr R (clr R (clr R 15)) = 15
  rw [e, e, e]
theorem bch_r {v : Int} (h0 : 0 ≤ h) (h1 : h < 16) (v0 : 0 ≤ v) (v1 : v < 16) : 0 ≤ bch h v ∧ bch h v ≤ 4 ∧ 0 ≤ iXor v h ∧ iXor v h < 16 ∧ on16 (iXor v h) = bch h v := by
  have hx := iXor_r v0 v1 h0 h1
  have e := bc_16 hx.1 hx.2
  have r := bit4_r (a := iXor v h)
  refine ⟨?_, ?_, hx.1, hx.2, on_bc hx.1 hx.2⟩
  · unfold bch; rw [e]; exact r.1
  · unfold bch; rw [e]; exact r.2
theorem change_C {Q : Int} (ht : tr (s 38 5) Q) (h0 : 0 ≤ h) (h1 : h < 16) (kk : ∀ w, bst2 (s 38 5) h 0 16 w → P (some (vI (bch h w))) (m_upd s 0 9 w)) : Rn X (d + 1) 124 32 [some (vR 0), some (vI i), some (vI h), some (vI 15), some (vI 15)] [] s P := by
  have c15 := clo_15 ht
  have loop : ∀ (m : Nat) (z b : Int), z = (m : Int) - 1 → z ≤ 15 → 0 ≤ b → b < 16 → ((z = 15 ∧ b = 15) ∨ bst2 (s 38 5) h (z + 1) 16 b) → Rn X (d + 1) 124 32 [some (vR 0), some (vI i), some (vI h), some (vI b), some (vI z)] [] s P := by
    intro m
    induction m with
    | zero =>
      intro z b hz z1 b0 b1 hb
      have hb : bst2 (s 38 5) h 0 16 b := by
        rcases hb with hb | hb
        · omega
        · rw [show (0 : Int) = z + 1 by omega]; exact hb
      have rb := bch_r h0 h1 b0 b1
      have hx := kk b hb
      apply t_X5_change_32 z1 h0 h1 b0 b1 <;> intros
      all_goals first | exact hx | omega
    | succ m ih =>
      intro z b hz z1 b0 b1 hb
      have cr := clo_r (u := z) ht ⟨by omega, by omega⟩
      obtain ⟨cr0, cr1⟩ := cr
      have rz := bch_r (v := z) h0 h1 (by omega) (by omega)
      have rb := bch_r h0 h1 b0 b1
      unfold bch at rz rb
      have keep : ¬ clo (s 38 5) z = z → Rn X (d + 1) 124 32 [some (vR 0), some (vI i), some (vI h), some (vI b), some (vI (z + (-1)))] [] s P := fun hc => by
        refine ih (z + (-1)) b (by omega) (by omega) b0 b1 (Or.inr ?_)
        rw [show z + (-1) + 1 = z by omega]
        rcases hb with ⟨rfl, hb⟩ | hb
        · exact absurd c15 hc
        · refine ⟨⟨by have := hb.1.1; omega, hb.1.2.1, hb.1.2.2⟩, fun v v0 v1 hv => hb.2 v ?_ v1 hv⟩
          by_cases hvz : v = z
          · rw [hvz] at hv; exact absurd hv hc
          · omega
      have keep2 : clo (s 38 5) z = z → bc (iXor b h) < bc (iXor z h) → Rn X (d + 1) 124 32 [some (vR 0), some (vI i), some (vI h), some (vI b), some (vI (z + (-1)))] [] s P := fun hc hlt => by
        refine ih (z + (-1)) b (by omega) (by omega) b0 b1 (Or.inr ?_)
        rw [show z + (-1) + 1 = z by omega]
        rcases hb with ⟨rfl, rfl⟩ | hb
        · omega
        · refine ⟨⟨by have := hb.1.1; omega, hb.1.2.1, hb.1.2.2⟩, fun v v0 v1 hv => ?_⟩
          by_cases hvz : v = z
          · rw [hvz]; unfold bch; omega
          · exact hb.2 v (by omega) v1 hv
      have take : clo (s 38 5) z = z → bc (iXor z h) ≤ bc (iXor b h) → Rn X (d + 1) 124 32 [some (vR 0), some (vI i), some (vI h), some (vI z), some (vI (z + (-1)))] [] s P := fun hc hle => by
        refine ih (z + (-1)) z (by omega) (by omega) (by omega) (by omega) (Or.inr ?_)
        rw [show z + (-1) + 1 = z by omega]
        refine ⟨⟨by omega, by omega, hc⟩, fun v v0 v1 hv => ?_⟩
        by_cases hvz : v = z
        · rw [hvz]; omega
        · rcases hb with ⟨h15, _⟩ | hb
          · omega
          · have := (hb.2 v (by omega) v1 hv).1
            unfold bch at this ⊢
            omega
      apply t_X5_change_32 z1 h0 h1 b0 b1 <;> intros
      all_goals first | (exact keep (by assumption)) | (exact keep2 (by assumption) (by assumption)) | (exact take (by assumption) (by assumption)) | omega
  exact loop 16 15 15 (by omega) (by omega) (by omega) (by omega) (Or.inl ⟨rfl, rfl⟩)
theorem change_M (ht : tr (s 38 5) (s 83 7)) (h0 : 0 ≤ h) (h1 : h < 16) (kk : ∀ w, bst2 (s 38 5) h 0 16 w → P (some (vI (bch h w))) (m_upd s 77 11 w)) : Rn X (d + 3) 231 22 [some (vR 77), some (vI i), some (vI h), some (vI (-9)), some (vI 0)] [] s P := by
  have c15 := clo_15 ht
  have loop : ∀ (m : Nat) (z b : Int), 0 ≤ z → z + m = 16 → ((b = -9 ∧ ∀ v, 0 ≤ v → v < z → ¬ clo (s 38 5) v = v) ∨ bst2 (s 38 5) h 0 z b) → Rn X (d + 3) 231 22 [some (vR 77), some (vI i), some (vI h), some (vI b), some (vI z)] [] s P := by
    intro m
    induction m with
    | zero =>
      intro z b z0 zm hb
      have e : z = 16 := by omega
      subst e
      have hb : bst2 (s 38 5) h 0 16 b := by
        rcases hb with ⟨_, hb⟩ | hb
        · exact absurd c15 (hb 15 (by omega) (by omega))
        · exact hb
      have rb := bch_r h0 h1 hb.1.1 hb.1.2.1
      have hx := kk b hb
      rw [← rb.2.2.2.2] at hx
      apply t_X6_change_22 z0 <;> intros
      all_goals first | exact hx | omega
    | succ m ih =>
      intro z b z0 zm hb
      have cr := clo_r (u := z) ht ⟨by omega, by omega⟩
      obtain ⟨cr0, cr1⟩ := cr
      have rz := bch_r (v := z) h0 h1 (by omega) (by omega)
      have keep : ¬ clo (s 38 5) z = z → Rn X (d + 3) 231 22 [some (vR 77), some (vI i), some (vI h), some (vI b), some (vI (z + 1))] [] s P := fun hc => by
        refine ih (z + 1) b (by omega) (by omega) ?_
        rcases hb with ⟨hb, hv⟩ | hb
        · refine Or.inl ⟨hb, fun v v0 v1 => ?_⟩
          by_cases hvz : v = z
          · rw [hvz]; exact hc
          · exact hv v v0 (by omega)
        · refine Or.inr ⟨⟨hb.1.1, by have := hb.1.2.1; omega, hb.1.2.2⟩, fun v v0 v1 hv => hb.2 v v0 ?_ hv⟩
          by_cases hvz : v = z
          · rw [hvz] at hv; exact absurd hv hc
          · omega
      have first : clo (s 38 5) z = z → b = -9 → Rn X (d + 3) 231 22 [some (vR 77), some (vI i), some (vI h), some (vI z), some (vI (z + 1))] [] s P := fun hc h9 => by
        refine ih (z + 1) z (by omega) (by omega) (Or.inr ⟨⟨by omega, by omega, hc⟩, fun v v0 v1 hv => ?_⟩)
        by_cases hvz : v = z
        · rw [hvz]; omega
        · rcases hb with ⟨_, hb⟩ | hb
          · exact absurd hv (hb v v0 (by omega))
          · have := hb.1.1; omega
      have old : clo (s 38 5) z = z → ¬ b = -9 → on16 (iXor b h) ≤ on16 (iXor z h) → Rn X (d + 3) 231 22 [some (vR 77), some (vI i), some (vI h), some (vI b), some (vI (z + 1))] [] s P := fun hc h9 hle => by
        rcases hb with ⟨hb, _⟩ | hb
        · exact absurd hb h9
        · have rb := bch_r h0 h1 hb.1.1 (by have := hb.1.2.1; omega)
          refine ih (z + 1) b (by omega) (by omega) (Or.inr ⟨⟨hb.1.1, by have := hb.1.2.1; omega, hb.1.2.2⟩, fun v v0 v1 hv => ?_⟩)
          by_cases hvz : v = z
          · rw [hvz]
            have := hb.1.2.1
            omega
          · exact hb.2 v v0 (by omega) hv
      have new : clo (s 38 5) z = z → ¬ b = -9 → on16 (iXor z h) < on16 (iXor b h) → Rn X (d + 3) 231 22 [some (vR 77), some (vI i), some (vI h), some (vI z), some (vI (z + 1))] [] s P := fun hc h9 hlt => by
        rcases hb with ⟨hb, _⟩ | hb
        · exact absurd hb h9
        · have rb := bch_r h0 h1 hb.1.1 (by have := hb.1.2.1; omega)
          refine ih (z + 1) z (by omega) (by omega) (Or.inr ⟨⟨by omega, by omega, hc⟩, fun v v0 v1 hv => ?_⟩)
          by_cases hvz : v = z
          · rw [hvz]; omega
          · have := (hb.2 v v0 (by omega) hv).1
            omega
      have hbr : b = -9 ∨ (0 ≤ b ∧ b < 16) := by
        rcases hb with ⟨hb, _⟩ | hb
        · exact Or.inl hb
        · exact Or.inr ⟨hb.1.1, by have := hb.1.2.1; omega⟩
      apply t_X6_change_22 z0 <;> intros
      all_goals first | (exact keep (by assumption)) | (exact first (by assumption) (by assumption)) | (exact old (by assumption) (by assumption) (by assumption)) | (exact new (by assumption) (by assumption) (by assumption)) | exact ht | exact ⟨by omega, by omega⟩ | omega
  exact loop 16 0 (-9) (by omega) (by omega) (Or.inl ⟨rfl, fun v v0 v1 => by omega⟩)
end OPK
