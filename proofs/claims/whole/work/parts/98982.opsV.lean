section OPV
variable {X : List Int32} {d : Nat} {s : m_St} {c r : Int}
theorem tpr_fr {s t : m_St} {k0 k1 R : Int} {w : Int → Int} (h : tpr s k0 k1 R w) (e : ∀ a j, ¬ a = 71 → ¬ (a = 66 ∧ j = 4) → t a j = s a j) : tkok t := tkok_cong (fun c j c0 c1 => e c j (by omega) (by omega)) h.1
theorem op_soonest (h : J s) (rc : inR c) (rr : inR r) : Cl X (d + 20) 110 [vR 0, vI c, vI r] s (Pw X (d + 20) 225 [vR 77, vI c, vI r]) := by
  have h7 := J_7 h
  have u60 : s 83 5 ≤ 6 := h7.2.2.1
  have base : ∀ v, (v = -1 ∧ (c < 0 ∨ 15 < c ∨ r < 0 ∨ 5 < r)) ∨ (v = -4 ∧ 0 ≤ c ∧ c ≤ 15 ∧ 0 ≤ r ∧ r ≤ 5 ∧ s 83 5 ≤ 0) → Pw X (d + 20) 225 [vR 77, vI c, vI r] (some (vI v)) s := by
    intro v hv
    rcases hv with ⟨rfl, hv⟩ | ⟨rfl, hv⟩
    · refine Pw_mk ?_
      apply t_X6_soonest <;> intros
      all_goals first | exact rc | exact rr | omega | exact ⟨rfl, h⟩
    · refine Pw_mk ?_
      apply t_X6_soonest <;> intros
      all_goals first | exact rc | exact rr | omega | exact ⟨rfl, h⟩
  by_cases hb : 0 ≤ c ∧ c ≤ 15 ∧ 0 ≤ r ∧ r ≤ 5
  · obtain ⟨c0, c15, r0, r5⟩ := hb
    by_cases hu : s 38 7 = -1
    · have fin := base (-4) (Or.inr ⟨rfl, c0, c15, r0, r5, by omega⟩)
      clear base
      apply t_X5_soonest <;> intros
      all_goals first | exact rc | exact rr | omega | exact fin
    · clear base
      obtain ⟨hup, huk, e7, e8, l7, l8⟩ := J_up h hu
      have u := huk.u
      have h06 := huk.1.1.2.1
      obtain ⟨Jt, _, _⟩ := J_tka h hu
      have ht := tpr_tka h hu
      have hfw := fwF_tpr (c := c) ht
      -- what the class has found
      have found : ∀ v11 s11, qFw (tka s) c 5 v11 s11 → J s11 ∧ (∀ x j, ¬ (66 ≤ x ∧ x ≤ 75) → s11 x j = s x j) := by
        intro v11 s11 ⟨q1, q2, q3⟩
        have fs : ∀ x j, ¬ (66 ≤ x ∧ x ≤ 75) → s11 x j = s x j := fun x j hx => by rw [q1 x j (by omega) (by omega), tka_o (by omega)]
        exact ⟨J_scr h (fun x j h1 _ _ _ _ => fs x j h1) (tpr_fr ht q1) (fun i => by rw [q1 72 i (by decide) (by omega), tka_o (by omega)]; exact h.2.2.2.2.2.2.2 i), fs⟩
      -- the reference beside a state that differs from s only in scratch and in row r
      have mid : ∀ (s11 t : m_St) (v : Int), J s11 → (∀ x j, ¬ (66 ≤ x ∧ x ≤ 75) → s11 x j = s x j) → (∀ x j, ¬ (x = 2 ∧ j = r) → ¬ x = 4 + r → t x j = s11 x j) → (∀ v12 s12, (∀ x j, ¬ (88 ≤ x ∧ x ≤ 91) → s12 x j = t x j) → agM (fun m => rF (s 83 (8 + 5 * (s 83 5 - 1))) (s 83 (8 + 5 * (s 83 6 - 1))) (s 38 5) c m (W0 (s 83) (s 83 5 - 1) (s 83 6 - 1))) 6 0 v12 s12 → (v12 = -9 → v12 = v ∧ J s12) ∧ (¬ v12 = -9 → Rn X (d + 20) 225 55 [some (vR 77), some (vI c), some (vI r), some (vI v12), some (vI 0)] [] (rwr (m_upd s12 78 r v12) 79 (40 * r) 40 (fun _ => 0)) (fun v2 s2 => v2 = some (vI v) ∧ J s2))) → Cl X (d + 20) 225 [vR 77, vI c, vI r] t (fun v2 s2 => v2 = some (vI v) ∧ J s2) := by
        intro s11 t v J11 f11 ft hk
        have x5 : t 83 5 = s 83 5 := by rw [ft 83 5 (by omega) (by omega), f11 83 5 (by omega)]
        have x6 : t 83 6 = s 83 6 := by rw [ft 83 6 (by omega) (by omega), f11 83 6 (by omega)]
        have e83 : t 83 = s 83 := funext fun q => by rw [ft 83 q (by omega) (by omega), f11 83 q (by omega)]
        have e38 : t 38 5 = s 38 5 := by rw [ft 38 5 (by omega) (by omega), f11 38 5 (by omega)]
        have opn : ∀ s9, qOp t (t 83 5 - 1) (t 83 6 - 1) s9 → opS s9 ∧ w8 (wt s9 0) ∧ ∀ v12 s12, qAg s9 c 5 v12 s12 → (∀ x j, ¬ (88 ≤ x ∧ x ≤ 91) → s12 x j = t x j) ∧ agM (fun m => rF (s 83 (8 + 5 * (s 83 5 - 1))) (s 83 (8 + 5 * (s 83 6 - 1))) (s 38 5) c m (W0 (s 83) (s 83 5 - 1) (s 83 6 - 1))) 6 0 v12 s12 := by
          intro s9 hq
          rw [x5, x6] at hq
          obtain ⟨ho, hw0, hw8⟩ := opk_of huk.1 u.1 u.2.1 u.2.2.1 u.2.2.2 hq e83 e38
          refine ⟨by unfold opS; rw [ho.1, ho.2.1, ho.2.2.2.2.2.2.1]; exact ho, hw8, fun v12 s12 ⟨a1, a2⟩ => ⟨fun x j hx => ?_, ?_⟩⟩
          · rw [a1 x j (by omega) (by omega), hq.1 x j (by omega) (by omega)]
          · rw [ho.1, ho.2.1, ho.2.2.2.2.2.2.1, hw0] at a2
            exact a2
        have vr : ∀ v12 s12, agM (fun m => rF (s 83 (8 + 5 * (s 83 5 - 1))) (s 83 (8 + 5 * (s 83 6 - 1))) (s 38 5) c m (W0 (s 83) (s 83 5 - 1) (s 83 6 - 1))) 6 0 v12 s12 → inR v12 := by
          intro v12 s12 ha
          unfold agM at ha
          split at ha
          · omega
          · next np hnp =>
            have := fews_some _ _ _ hnp
            have := ha.1
            omega
        apply t_X6_soonest <;> intros
        all_goals first | exact rc | exact rr | omega | (next s9 hq => exact (opn s9 hq).1) | (next s9 hq => exact (opn s9 hq).2.1) | (next s9 hq v12 s12 ha => exact vr v12 s12 ((opn s9 hq).2.2 v12 s12 ha).2) | skip
        · next s9 hq v12 s12 ha hv9 =>
          obtain ⟨b1, b2⟩ := (opn s9 hq).2.2 v12 s12 ha
          have := (hk v12 s12 b1 b2).1 hv9
          exact ⟨by rw [this.1], this.2⟩
        · next s9 hq v12 s12 ha hv9 =>
          obtain ⟨b1, b2⟩ := (opn s9 hq).2.2 v12 s12 ha
          exact (hk v12 s12 b1 b2).2 hv9
      have e6 : (5 + 1 : Int).toNat = 6 := rfl
      have scr : ∀ a b, J a → (∀ x j, ¬ (88 ≤ x ∧ x ≤ 91) → b x j = a x j) → J b := fun a b ja e => J_scr ja (fun x j _ _ _ h4 _ => e x j h4) (tkok_cong (fun x j c0 c1 => e x j (by omega)) ja.2.2.2.2.2.2.1) (fun i => by rw [e 72 i (by decide)]; exact ja.2.2.2.2.2.2.2 i)
      cases hfe : fews (fun m => rF (s 83 (8 + 5 * (s 83 5 - 1))) (s 83 (8 + 5 * (s 83 6 - 1))) (s 38 5) c m (W0 (s 83) (s 83 5 - 1) (s 83 6 - 1))) 6 0 with
      | none =>
        have v9 : ∀ v11 s11, qFw (tka s) c 5 v11 s11 → v11 = -9 := by
          intro v11 s11 ⟨_, _, q3⟩
          rw [hfw, e6, hfe] at q3
          exact q3
        apply t_X5_soonest <;> intros
        all_goals first | exact rc | exact rr | omega | exact hup | exact Jt.2.2.2.2.2.2.1 | (next v11 s11 q => have := v9 v11 s11 q; omega) | (next v11 s11 q hv => exact absurd (v9 v11 s11 q) hv) | skip
        next v11 s11 q hv =>
        obtain ⟨J11, f11⟩ := found v11 s11 q
        rw [hv]
        refine Pw_mk (mid s11 s11 (-9) J11 f11 (fun _ _ _ _ => rfl) (fun v12 s12 f12 ha => ?_))
        unfold agM at ha
        rw [hfe] at ha
        exact ⟨fun hz => ⟨hz, scr _ _ J11 f12⟩, fun hn => absurd ha hn⟩
      | some np =>
        obtain ⟨hnp, _, hn6⟩ := fews_some _ _ _ hfe
        obtain ⟨hlen, hent⟩ := rF_len _ _ _ hnp
        have vn : ∀ v11 s11, qFw (tka s) c 5 v11 s11 → v11 = np.1 ∧ ∀ i : Nat, i < np.2.length → s11 71 i = np.2.getD i 0 := by
          intro v11 s11 ⟨_, _, q3⟩
          rw [hfw, e6, hfe] at q3
          exact q3
        apply t_X5_soonest <;> intros
        all_goals first | exact rc | exact rr | omega | exact hup | exact Jt.2.2.2.2.2.2.1 | (next v11 s11 q => have := (vn v11 s11 q).1; omega) | (next v11 s11 q hv => have := (vn v11 s11 q).1; omega) | (next v11 s11 q hv => exact (found v11 s11 q).1.1.1) | skip
        next v11 s11 q hv =>
        obtain ⟨J11, f11⟩ := found v11 s11 q
        obtain ⟨hv1, hp1⟩ := vn v11 s11 q
        subst hv1
        refine soon_C (q := fun j => np.2.getD j.toNat 0) r0 (by omega) (by omega) (by omega) (by rw [fil_o (by omega), upd_eq]) (fun j j0 j1 => ?_) (fun s' g1 g2 => ?_)
        · rw [fil_o (by omega), upd_nc (by decide)]
          have := hp1 j.toNat (by omega)
          rw [show ((j.toNat : Nat) : Int) = j by omega] at this
          exact this
        · have gs : ∀ x j, ¬ (x = 2 ∧ j = r) → ¬ x = 4 + r → s' x j = s11 x j := fun x j h1 h2 => by rw [g1 x j (by omega), fil_o (by omega), upd_o2 h1]
          have g2r : s' 2 r = np.1 := by rw [g1 2 r (by omega), fil_o (by omega), upd_eq]
          refine Pw_mk (mid s11 s' np.1 J11 f11 gs (fun v12 s12 f12 ha => ?_))
          unfold agM at ha
          rw [hfe] at ha
          obtain ⟨hv2, hp2⟩ := ha
          refine ⟨fun hz => by omega, fun _ => ?_⟩
          subst hv2
          refine soon_M (q := fun j => np.2.getD j.toNat 0) r0 (by omega) (by omega) (by omega) (fun j j0 j1 => ?_) (fun s'' k1 k2 => ⟨rfl, ?_⟩)
          · rw [rwr_nc (by decide), upd_nc (by decide)]
            have := hp2 j.toNat (by omega)
            rw [show ((j.toNat : Nat) : Int) = j by omega] at this
            exact this
          · have ks : ∀ x j, ¬ (x = 2 ∧ j = r) → ¬ x = 4 + r → ¬ (x = 78 ∧ j = r) → ¬ (x = 79 ∧ 40 * r ≤ j ∧ j < 40 * r + 40) → ¬ (88 ≤ x ∧ x ≤ 91) → s'' x j = s11 x j := fun x j h1 h2 h3 h4 h5 => by
              rw [k1 x j h4, rwr_o (by omega), upd_o2 h3, f12 x j h5, gs x j h1 h2]
            have z2 : s'' 2 r = np.1 := by rw [k1 2 r (by omega), rwr_nc (by decide), upd_nc (by decide), f12 2 r (by omega), g2r]
            have z78 : s'' 78 r = np.1 := by rw [k1 78 r (by omega), rwr_nc (by decide), upd_eq]
            refine J_row2 (r := r) J11 (fun x j h1 h2 h3 h4 h5 h6 h7 => ks x j h1 h2 h3 h4 h7) (tkok_cong (fun x j c0 c1 => ks x j (by omega) (by omega) (by omega) (by omega) (by omega)) J11.2.2.2.2.2.2.1) (fun i => by rw [ks 72 i (by omega) (by omega) (by omega) (by omega) (by omega)]; exact J11.2.2.2.2.2.2.2 i) r0 (by omega) (by omega) (by omega) (by rw [z78, z2]) (fun j j0 j1 => ?_)
            rw [z2] at j1
            have e1 : s'' (4 + r) j = np.2.getD j.toNat 0 := by
              rw [k1 (4 + r) j (by omega), rwr_nc (by omega), upd_nc (by omega), f12 (4 + r) j (by omega)]
              exact g2 j j0 j1
            have e2 := k2 j j0 j1
            have en := hent j.toNat (by omega)
            rw [e1, e2]
            exact ⟨by omega, rfl⟩
  · have hbn : c < 0 ∨ 15 < c ∨ r < 0 ∨ 5 < r := by omega
    have fin := base (-1) (Or.inl ⟨rfl, hbn⟩)
    clear base
    apply t_X5_soonest <;> intros
    all_goals first | exact rc | exact rr | exact fin | omega
end OPV
