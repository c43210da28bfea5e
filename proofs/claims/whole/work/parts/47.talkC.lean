theorem bc_shw (k0 k1 : Int) (w : Int → Int) : 0 ≤ bc (shw k0 k1 w) ∧ bc (shw k0 k1 w) ≤ 4 := by
  have := shw_r k0 k1 w
  rw [bc_16 this.1 this.2]
  exact bit4_r
theorem bst_r {fl b v : Int} (hb : b = -9 ∨ (0 ≤ b ∧ b ≤ 4)) (hv : 0 ≤ v ∧ v ≤ 4) : 0 ≤ bst fl b v ∧ bst fl b v ≤ 4 := by unfold bst; omega
theorem bsl_r {fl : Int} {F : Int → Option Int} {b : Int} (hb : b = -9 ∨ (0 ≤ b ∧ b ≤ 4)) (hF : ∀ a v, F a = some v → 0 ≤ v ∧ v ≤ 4) : ∀ n, bsl fl F b n = -9 ∨ (0 ≤ bsl fl F b n ∧ bsl fl F b n ≤ 4) := by
  intro n
  induction n with
  | zero => exact hb
  | succ n ih =>
    unfold bsl
    split
    · next v hv => exact Or.inr (bst_r ih (hF _ _ hv))
    · exact ih
theorem bF_r (k0 k1 R : Int) : ∀ (m : Nat) (fl : Int) (w : Int → Int), 0 ≤ bF k0 k1 R m fl w ∧ bF k0 k1 R m fl w ≤ 4 := by
  intro m
  induction m with
  | zero => intro fl w; exact bc_shw k0 k1 w
  | succ m ih =>
    intro fl w
    have h1 : (if 2 * bc (shw k0 k1 w) ≤ 0 then -9 else bF k0 k1 R m (nfl fl) w) = -9 ∨ (0 ≤ (if 2 * bc (shw k0 k1 w) ≤ 0 then -9 else bF k0 k1 R m (nfl fl) w) ∧ (if 2 * bc (shw k0 k1 w) ≤ 0 then -9 else bF k0 k1 R m (nfl fl) w) ≤ 4) := by
      split
      · exact Or.inl rfl
      · exact Or.inr (ih _ _)
    have h2 := bsl_r (fl := fl) (F := fun a => if iAnd (iShr (tnw k0 k1 w) a) 1 = 0 then none else some (bF k0 k1 R m (nfl fl) (utw k0 k1 R w a))) h1 (fun a v hv => by
      split at hv
      · cases hv
      · cases hv; exact ih _ _) 8
    have key : ∀ b : Int, b = -9 ∨ (0 ≤ b ∧ b ≤ 4) → 0 ≤ (if b = -9 then 0 else b) ∧ (if b = -9 then 0 else b) ≤ 4 := fun b hb => by split <;> omega
    exact key _ h2
theorem PIfN {P : Option Value → m_St → Prop} {s : m_St} {b : Int} (h : P (some (vI (if b = -9 then 0 else b))) s) (g : ¬ b = -9) : P (some (vI b)) s := by rw [if_neg g] at h; exact h
theorem PIfP {P : Option Value → m_St → Prop} {s : m_St} {b : Int} (h : P (some (vI (if b = -9 then 0 else b))) s) (g : b = -9) : P (some (vI 0)) s := by rw [if_pos g] at h; exact h
theorem sm_s (F : Int → Int) (n : Nat) : sm F (n + 1) = sm F n + F n := rfl
section TKC
variable {X : List Int32} {k0 k1 R : Int}
theorem sp_tryAll0 : ∀ (m : Nat) (d : Nat) (n t : Int) (s : m_St) (w : Int → Int), n = m → m ≤ 5 → tpr s k0 k1 R w → inR (s 66 4) → 0 ≤ s 66 6 → s 66 6 < 16 →
    ∀ P : Option Value → m_St → Prop, (∀ s' : m_St, (∀ c j, ¬ (c = 66 ∧ (j = 5 ∨ j = 6)) → s' c j = s c j) → s' 66 5 = s 66 5 + t * cT k0 k1 R (s 66 4) m w → s' 66 6 = iAnd (s 66 6) (iT k0 k1 R (s 66 4) m w) → P none s') → Cl X (d + 5 + m) 118 [vR 66, vI n, vJ t] s P := by
  intro m
  induction m with
  | zero =>
    intro d n t s w hn hm hp rw4 i0 i1 P k
    obtain ⟨h1, h2, h3⟩ := tpr_tng hp
    have hs := shw_r k0 k1 w
    unfold cT iT at k
    apply t_X4_tryAll (d := d) <;> intros
    all_goals first | omega | exact rw4 | skip
    · next g1 g2 =>
      rw [h2] at g2
      rw [if_neg g2, if_neg g2, iAnd_15 i0 i1, Int.mul_zero, Int.add_zero] at k
      exact k s (fun _ _ _ => rfl) rfl rfl
    · next g1 g2 =>
      rw [h2] at g2
      rw [if_pos g2, if_pos g2, Int.mul_one] at k
      rw [h2]
      exact k _ (fun c j hc => by rw [upd_o2 (by omega), upd_o2 (by omega)]) (by rw [upd_nj (by omega), upd_eq]) upd_eq
  | succ m ih =>
    intro d n t s w hn hm hp rw4 i0 i1 P k
    obtain ⟨h1, h2, h3⟩ := tpr_tng hp
    have hs := shw_r k0 k1 w
    have hbc := bc_shw k0 k1 w
    have hb2 : bc (iAnd (s 67 2) (s 69 2)) = bc (shw k0 k1 w) := by rw [h2]
    -- the loop, from a saying on
    have loop : ∀ (j : Nat) (a : Int), 0 ≤ a → a + j = 8 → ∀ (s1 : m_St) (z : Option Value), (∀ c i, ¬ (c = 66 ∧ (i = 5 ∨ i = 6)) → s1 c i = s c i) → s1 66 5 = s 66 5 + t * (2 * bc (shw k0 k1 w) * cT k0 k1 R (s 66 4) m w + sm (fun a => if iAnd (iShr (tnw k0 k1 w) a) 1 = 0 then 0 else cT k0 k1 R (s 66 4) m (utw k0 k1 R w a)) a.toNat) → s1 66 6 = iAnd (s 66 6) (an (fun a => if iAnd (iShr (tnw k0 k1 w) a) 1 = 0 then 15 else iT k0 k1 R (s 66 4) m (utw k0 k1 R w a)) (if 2 * bc (shw k0 k1 w) ≤ 0 then 15 else iT k0 k1 R (s 66 4) m w) a.toNat) →
        Rn X (d + (m + 1) + 5) 118 40 [some (vR 66), some (vI n), some (vJ t), none, some (vI (tnw k0 k1 w)), some (vI a), z] [] s1 P := by
      intro j
      induction j with
      | zero =>
        intro a a0 ha s1 z e1 e2 e3
        obtain rfl : a = 8 := by omega
        apply t_X4_tryAll_40 (d := d + (m + 1)) a0 <;> intros
        all_goals first | omega | skip
        exact k s1 e1 e2 e3
      | succ j ihj =>
        intro a a0 ha s1 z e1 e2 e3
        have hp1 : tpr s1 k0 k1 R w := tpr_cong (fun c i c0 c1 => e1 c i (by omega)) (e1 66 2 (by omega)) hp
        have h4 : s1 66 4 = s 66 4 := e1 66 4 (by omega)
        have hu := sm_up (f := fun a => if iAnd (iShr (tnw k0 k1 w) a) 1 = 0 then 0 else cT k0 k1 R (s 66 4) m (utw k0 k1 R w a)) a0
        have hv := an_up (F := fun a => if iAnd (iShr (tnw k0 k1 w) a) 1 = 0 then 15 else iT k0 k1 R (s 66 4) m (utw k0 k1 R w a)) (x := if 2 * bc (shw k0 k1 w) ≤ 0 then 15 else iT k0 k1 R (s 66 4) m w) a0
        have hx0 : 0 ≤ (if 2 * bc (shw k0 k1 w) ≤ 0 then 15 else iT k0 k1 R (s 66 4) m w) ∧ (if 2 * bc (shw k0 k1 w) ≤ 0 then 15 else iT k0 k1 R (s 66 4) m w) < 16 := by
          split
          · omega
          · exact iT_r k0 k1 R (s 66 4) m w
        have han := an_r (F := fun a => if iAnd (iShr (tnw k0 k1 w) a) 1 = 0 then 15 else iT k0 k1 R (s 66 4) m (utw k0 k1 R w a)) hx0 (fun a => by
          split
          · omega
          · exact iT_r k0 k1 R (s 66 4) m _) a.toNat
        have hr6 : 0 ≤ s1 66 6 ∧ s1 66 6 < 16 := by rw [e3]; exact iAnd_r i0 i1 han.1 han.2
        apply t_X4_tryAll_40 (d := d + (m + 1)) a0 <;> intros
        all_goals first | omega | exact hp1.1 | skip
        · next g1 g2 =>
          rw [if_pos g2, Int.add_zero] at hu
          rw [if_pos g2, iAnd_15 han.1 han.2] at hv
          exact ihj (a + 1) (by omega) (by omega) s1 z e1 (by rw [hu]; exact e2) (by rw [hv]; exact e3)
        · next g1 g2 =>
          rw [if_neg g2] at hu hv
          have hpu := tpr_ut hp1 a0 g1
          have o66 : ∀ i, utS s1 a 66 i = s1 66 i := fun i => utS_o (by omega)
          rw [show d + (m + 1) + 4 = d + 5 + m by omega]
          refine ih d (n - 1) t _ _ (by omega) (by omega) hpu (by rw [o66, h4]; exact rw4) (by rw [o66]; exact hr6.1) (by rw [o66]; exact hr6.2) _ (fun s2 q1 q2 q3 => ?_)
          rw [o66, o66, h4] at q2 q3
          show Rn X (d + (m + 1) + 5) 118 73 [some (vR 66), some (vI n), some (vJ t), none, some (vI (tnw k0 k1 w)), some (vI a), some (vI (olw s1 a))] [] s2 P
          have hag : ∀ c i, 67 ≤ c → c ≤ 70 → s2 c i = utS s1 a c i := fun c i c0 c1 => q1 c i (by omega)
          have htk2 : tkok s2 := tkok_cong hag hpu.1
          have htb := tb_gen hp1.1 a0 hag
          refine t_X4_tryAll_73 (d := d + (m + 1)) a0 g1 htk2 (olw_r hp1.1) (ihj (a + 1) (by omega) (by omega) _ _ (fun c i hc => ?_) ?_ ?_)
          · rw [htb]
            split
            · exact e1 c i hc
            · rw [q1 c i hc, utS_o (by assumption)]
              exact e1 c i hc
          · rw [htb, if_neg (by omega), q2, e2, hu, Int.add_assoc, ← Int.mul_add, Int.add_assoc]
          · rw [htb, if_neg (by omega), q3, e3, hv, iAnd_assoc]
    rw [show d + 5 + (m + 1) = d + (m + 1) + 5 by omega]
    apply t_X4_tryAll (d := d + (m + 1)) <;> intros
    all_goals first | omega | skip
    · next g1 g2 =>
      rw [h2] at g2
      rw [h1]
      refine loop 8 0 (by omega) (by omega) s none (fun _ _ _ => rfl) ?_ ?_
      · rw [show 2 * bc (shw k0 k1 w) = 0 by omega, Int.zero_mul]
        show s 66 5 = s 66 5 + t * (0 + 0)
        omega
      · rw [if_pos g2]
        exact (iAnd_15 i0 i1).symm
    · next g1 g2 =>
      rw [h2] at g2 ⊢
      rw [show d + (m + 1) + 4 = d + 5 + m by omega]
      refine ih d (n - 1) _ s w (by omega) (by omega) hp rw4 i0 i1 _ (fun s2 q1 q2 q3 => ?_)
      show Rn X (d + (m + 1) + 5) 118 31 [some (vR 66), some (vI n), some (vJ t), none, none, none, none] [] s2 P
      have hp2 : tpr s2 k0 k1 R w := tpr_cong (fun c i c0 c1 => q1 c i (by omega)) (q1 66 2 (by omega)) hp
      refine t_X4_tryAll_31 (d := d + (m + 1)) ?_
      rw [(tpr_tng hp2).1]
      refine loop 8 0 (by omega) (by omega) s2 none q1 ?_ ?_
      · rw [q2]
        show _ = s 66 5 + t * (2 * bc (shw k0 k1 w) * cT k0 k1 R (s 66 4) m w + 0)
        rw [Int.add_zero, Int.mul_assoc]
      · rw [q3]
        show _ = iAnd (s 66 6) (if 2 * bc (shw k0 k1 w) ≤ 0 then 15 else iT k0 k1 R (s 66 4) m w)
        rw [if_neg (by omega)]
theorem sp_bestFor0 : ∀ (m : Nat) (d : Nat) (n fl : Int) (s : m_St) (w : Int → Int), n = m → m ≤ 5 → tpr s k0 k1 R w → (fl = 0 ∨ fl = 1) →
    ∀ P : Option Value → m_St → Prop, P (some (vI (bF k0 k1 R m fl w))) s → Cl X (d + 5 + m) 134 [vR 66, vI n, vI fl] s P := by
  intro m
  induction m with
  | zero =>
    intro d n fl s w hn hm hp hfl P k
    obtain ⟨h1, h2, h3⟩ := tpr_tng hp
    have hs := shw_r k0 k1 w
    apply t_X4_bestFor (d := d) <;> intros
    all_goals first | omega | skip
    rw [h2]
    exact k
  | succ m ih =>
    intro d n fl s w hn hm hp hfl P k
    obtain ⟨h1, h2, h3⟩ := tpr_tng hp
    have hs := shw_r k0 k1 w
    have hbc := bc_shw k0 k1 w
    have hb2 : bc (iAnd (s 67 2) (s 69 2)) = bc (shw k0 k1 w) := by rw [h2]
    have hb0 : (if 2 * bc (shw k0 k1 w) ≤ 0 then -9 else bF k0 k1 R m (nfl fl) w) = -9 ∨ (0 ≤ (if 2 * bc (shw k0 k1 w) ≤ 0 then -9 else bF k0 k1 R m (nfl fl) w) ∧ (if 2 * bc (shw k0 k1 w) ≤ 0 then -9 else bF k0 k1 R m (nfl fl) w) ≤ 4) := by
      split
      · exact Or.inl rfl
      · exact Or.inr (bF_r _ _ _ _ _ _)
    have hbn := bsl_r (fl := fl) (F := fun a => if iAnd (iShr (tnw k0 k1 w) a) 1 = 0 then none else some (bF k0 k1 R m (nfl fl) (utw k0 k1 R w a))) hb0 (fun a v hv => by
      split at hv
      · cases hv
      · cases hv; exact bF_r _ _ _ _ _ _)
    have loop : ∀ (j : Nat) (a : Int), 0 ≤ a → a + j = 8 → ∀ (z6 z7 : Option Value), Rn X (d + (m + 1) + 5) 134 50 [some (vR 66), some (vI n), some (vI fl), some (vI (bsl fl (fun a => if iAnd (iShr (tnw k0 k1 w) a) 1 = 0 then none else some (bF k0 k1 R m (nfl fl) (utw k0 k1 R w a))) (if 2 * bc (shw k0 k1 w) ≤ 0 then -9 else bF k0 k1 R m (nfl fl) w) a.toNat)), some (vI (tnw k0 k1 w)), some (vI a), z6, z7] [] s P := by
      intro j
      induction j with
      | zero =>
        intro a a0 ha z6 z7
        obtain rfl : a = 8 := by omega
        have hr := hbn 8
        have k' : P (some (vI (if bsl fl (fun a => if iAnd (iShr (tnw k0 k1 w) a) 1 = 0 then none else some (bF k0 k1 R m (nfl fl) (utw k0 k1 R w a))) (if 2 * bc (shw k0 k1 w) ≤ 0 then -9 else bF k0 k1 R m (nfl fl) w) 8 = -9 then 0 else bsl fl (fun a => if iAnd (iShr (tnw k0 k1 w) a) 1 = 0 then none else some (bF k0 k1 R m (nfl fl) (utw k0 k1 R w a))) (if 2 * bc (shw k0 k1 w) ≤ 0 then -9 else bF k0 k1 R m (nfl fl) w) 8))) s := k
        refine t_X4_bestFor_50 (d := d + (m + 1)) a0 (by decide) (fun _ => ?_) (fun _ g => ?_) (fun _ g => ?_) (by omega) (by omega) (by omega) (by omega) (by omega)
        · show inR (bsl _ _ _ 8)
          omega
        · exact PIfN k' g
        · exact PIfP k' g
      | succ j ihj =>
        intro a a0 ha z6 z7
        have hu := bsl_up (fl := fl) (F := fun a => if iAnd (iShr (tnw k0 k1 w) a) 1 = 0 then none else some (bF k0 k1 R m (nfl fl) (utw k0 k1 R w a))) (b := if 2 * bc (shw k0 k1 w) ≤ 0 then -9 else bF k0 k1 R m (nfl fl) w) a0
        have hnext := ihj (a + 1) (by omega) (by omega)
        have hr := hbn a.toNat
        rw [hu] at hnext
        have body : ∀ fl' : Int, nfl fl = fl' → a < 8 → ¬ iAnd (iShr (tnw k0 k1 w) a) 1 = 0 → Cl X (d + (m + 1) + 4) 134 [vR 66, vI (n - 1), vI fl'] (utS s a) (fun v s' => Rn X (d + (m + 1) + 5) 134 91 [some (vR 66), some (vI n), some (vI fl), some (vI (bsl fl (fun a => if iAnd (iShr (tnw k0 k1 w) a) 1 = 0 then none else some (bF k0 k1 R m (nfl fl) (utw k0 k1 R w a))) (if 2 * bc (shw k0 k1 w) ≤ 0 then -9 else bF k0 k1 R m (nfl fl) w) a.toNat)), some (vI (tnw k0 k1 w)), some (vI a), some (vI (olw s a)), z7] (m_push v []) s' P) := by
          intro fl' hfl' g1 g2
          rw [if_neg g2] at hnext
          dsimp only at hnext
          have hpu := tpr_ut hp a0 g1
          rw [show d + (m + 1) + 4 = d + 5 + m by omega]
          refine ih d (n - 1) fl' _ _ (by omega) (by omega) hpu (by unfold nfl at hfl'; omega) _ ?_
          show Rn X (d + (m + 1) + 5) 134 91 [some (vR 66), some (vI n), some (vI fl), some (vI (bsl fl _ _ a.toNat)), some (vI (tnw k0 k1 w)), some (vI a), some (vI (olw s a)), z7] [vI (bF k0 k1 R m fl' (utw k0 k1 R w a))] (utS s a) P
          have hv := bF_r k0 k1 R m fl' (utw k0 k1 R w a)
          rw [hfl'] at hnext hr ⊢
          unfold bst at hnext
          refine t_X4_bestFor_91 (d := d + (m + 1)) a0 g1 hpu.1 (olw_r hp.1) (by omega) (fun q => ?_) (fun _ => by omega) (fun _ _ => by omega) (fun q1 q2 q3 => ?_) (fun q1 q2 q3 => ?_) (fun _ _ => by omega) (fun q1 q2 q3 => ?_) (fun q1 q2 q3 => ?_)
          · rw [if_pos q] at hnext
            rw [tb_ut hp.1 a0]
            exact hnext _ _
          · rw [if_neg q1, if_pos q2, if_neg (by omega)] at hnext
            rw [tb_ut hp.1 a0]
            exact hnext _ _
          · rw [if_neg q1, if_pos q2, if_pos q3] at hnext
            rw [tb_ut hp.1 a0]
            exact hnext _ _
          · rw [if_neg q1, if_neg q2, if_neg (by omega)] at hnext
            rw [tb_ut hp.1 a0]
            exact hnext _ _
          · rw [if_neg q1, if_neg q2, if_pos q3] at hnext
            rw [tb_ut hp.1 a0]
            exact hnext _ _
        refine t_X4_bestFor_50 (d := d + (m + 1)) a0 ⟨by omega, by omega⟩ (by omega) (by omega) (by omega) (fun g1 g2 => ?_) (fun _ _ => hp.1) (fun _ _ => by omega) (fun g1 g2 q => body 0 (by unfold nfl; rw [if_neg q]) g1 g2) (fun g1 g2 q => body 1 (by unfold nfl; rw [if_pos q]) g1 g2)
        rw [if_pos g2] at hnext
        exact hnext _ _
    rw [show d + 5 + (m + 1) = d + (m + 1) + 5 by omega]
    have hidle : ∀ fl' : Int, nfl fl = fl' → 0 < 2 * bc (shw k0 k1 w) → Cl X (d + (m + 1) + 4) 134 [vR 66, vI (n - 1), vI fl'] s (fun v s' => Rn X (d + (m + 1) + 5) 134 35 [some (vR 66), some (vI n), some (vI fl), none, none, none, none, none] (m_push v []) s' P) := by
      intro fl' hfl' hpos
      rw [show d + (m + 1) + 4 = d + 5 + m by omega]
      refine ih d (n - 1) fl' s w (by omega) (by omega) hp (by unfold nfl at hfl'; omega) _ ?_
      show Rn X (d + (m + 1) + 5) 134 35 [some (vR 66), some (vI n), some (vI fl), none, none, none, none, none] [vI (bF k0 k1 R m fl' w)] s P
      refine t_X4_bestFor_35 (d := d + (m + 1)) ?_
      have := loop 8 0 (by omega) (by omega) none none
      rw [show bsl fl (fun a => if iAnd (iShr (tnw k0 k1 w) a) 1 = 0 then none else some (bF k0 k1 R m (nfl fl) (utw k0 k1 R w a))) (if 2 * bc (shw k0 k1 w) ≤ 0 then -9 else bF k0 k1 R m (nfl fl) w) (Int.toNat 0) = bF k0 k1 R m fl' w from by
        show (if 2 * bc (shw k0 k1 w) ≤ 0 then -9 else bF k0 k1 R m (nfl fl) w) = _
        rw [if_neg (by omega), hfl']] at this
      rw [h1]
      exact this
    refine t_X4_bestFor (d := d + (m + 1)) (by omega) (by omega) (by omega) (by omega) (fun _ g => ?_) (by omega) (fun _ g q => hidle 0 (by unfold nfl; rw [if_neg q]) (by rw [h2] at g; exact g)) (fun _ g q => hidle 1 (by unfold nfl; rw [if_pos q]) (by rw [h2] at g; exact g)) (by omega) (by omega) (by omega)
    rw [h2] at g
    have := loop 8 0 (by omega) (by omega) none none
    rw [show bsl fl (fun a => if iAnd (iShr (tnw k0 k1 w) a) 1 = 0 then none else some (bF k0 k1 R m (nfl fl) (utw k0 k1 R w a))) (if 2 * bc (shw k0 k1 w) ≤ 0 then -9 else bF k0 k1 R m (nfl fl) w) (Int.toNat 0) = -9 from by
      show (if 2 * bc (shw k0 k1 w) ≤ 0 then -9 else bF k0 k1 R m (nfl fl) w) = _
      rw [if_pos g]] at this
    rw [h1]
    exact this
end TKC
