/-! the reference reads reasons and guests -/
section SPRD
variable {X : List Int32} {d : Nat} {s s0 s1 : m_St} {P : Option Value → m_St → Prop} {t n w p h : Int} {sg dr : Int → Int}
theorem sp_readsPairM (m : mtt s t n sg) (hw : s 77 19 = 1) (p0 : 0 ≤ s 77 18) (pn : s 77 18 < n) (q : Int) (hq : q = s 77 18) (kk : ∀ (s' : m_St) (w' p' : Int) (dr' : Int → Int), RS s s' w' p' dr' → ((fR n sg q = -9 ∧ w' = 1 ∧ p' = skb n sg (q + 3) ∧ dr' = setf (s 84) 7 (iOr (s 84 7) (iShl 1 (4 * (at_ n sg (q + 1) - 48) + (at_ n sg (q + 2) - 48))))) ∨ (¬ fR n sg q = -9 ∧ w' = 0 ∧ p' = fR n sg q)) → P none s') : Cl X (d + 2) 178 [vR 77, vI t] s P := by
  obtain ⟨t0, t4, ht, e1, e2⟩ := m
  have m : mtt s t n sg := ⟨t0, t4, ht, e1, e2⟩
  have n6 := ht.2.1
  have R0 : RS s s 1 q (s 84) := by have := RS_rfl (s := s); rw [hw, ← hq] at this; exact this
  rw [← hq] at p0 pn
  have hq2 : s 77 18 = q := hq.symm
  have b1 := lkp_r ht (p := q + 1) (by omega)
  have b2 := lkp_r ht (p := q + 2) (by omega)
  have Ra : RS s (m_upd s 77 18 (s 77 18 + 1)) 1 (q + 1) (s 84) := by rw [hq2]; exact RS_18 R0
  have Da := RS_rdk m Ra (by omega) (by omega) (by omega)
  have LA := RS_lk m Ra (by omega)
  by_cases h1 : 48 ≤ lkp n sg (q + 1) ∧ lkp n sg (q + 1) ≤ 48 + 3
  · have Rb := RS_fgY (h := 3) m Ra (by omega) h1
    rw [show q + 1 + 1 = q + 2 by omega] at Rb
    have Db := RS_rdk m Rb (by omega) (by omega) (by omega)
    have LB := RS_lk m Rb (by omega)
    have wb := Rb.2.1
    by_cases he : lkp n sg (q + 2) = lkp n sg (q + 1)
    · have Rc := RS_19 (x := 0) Rb
      have Dc := RS_rdk m Rc (by omega) (by omega) (by omega)
      have Rd := RS_fg0 (h := 3) m Rc (by omega)
      have wd := Rd.2.1
      have hfR : fR n sg q = q + 2 := by
        unfold fR
        rw [if_neg (by omega)]
        by_cases hz : ¬ (0 ≤ at_ n sg (q + 2) - 48 ∧ at_ n sg (q + 2) - 48 < 4)
        · rw [if_pos hz]
        · rw [if_neg hz, if_pos (by omega)]
      apply t_X6_readsPair t0 t4 (by omega) <;> intros
      all_goals first | omega | exact Da | exact Db | exact Dc | skip
      all_goals first | exact RS_rdk m (RS_84 Rd) (by omega) (by omega) (by omega) | skip
      all_goals exact kk _ _ _ _ (RS_sk0 m (RS_84 Rd) (by omega)) (Or.inr ⟨by omega, rfl, by omega⟩)
    · have Rc := RS_19 (x := 1) Rb
      have Dc := RS_rdk m Rc (by omega) (by omega) (by omega)
      have LC := RS_lk m Rc (by omega)
      by_cases h2 : 48 ≤ lkp n sg (q + 2) ∧ lkp n sg (q + 2) ≤ 48 + 3
      · have Rd := RS_fgY (h := 3) m Rc (by omega) h2
        rw [show q + 2 + 1 = q + 3 by omega] at Rd
        have wd := Rd.2.1
        have hfR : fR n sg q = -9 := by
          unfold fR
          rw [if_neg (by omega), if_neg (by omega), if_neg (by omega)]
        apply t_X6_readsPair t0 t4 (by omega) <;> intros
        all_goals first | omega | exact Da | exact Db | exact Dc | skip
        all_goals first | exact RS_rdk m (RS_84 Rd) (by omega) (by omega) (by omega) | skip
        all_goals (refine kk _ _ _ _ (RS_sk1 m (RS_84 Rd) (by omega)) (Or.inl ⟨hfR, rfl, rfl, ?_⟩))
        all_goals rw [LA, LC, Rd.2.2.2, show lkp n sg (q + 1) = at_ n sg (q + 1) by omega, show lkp n sg (q + 2) = at_ n sg (q + 2) by omega]
      · have Rd := RS_fgN (h := 3) m Rc (by omega) h2
        have wd := Rd.2.1
        have hfR : fR n sg q = q + 2 := by
          unfold fR
          rw [if_neg (by omega), if_pos (by omega)]
        apply t_X6_readsPair t0 t4 (by omega) <;> intros
        all_goals first | omega | exact Da | exact Db | exact Dc | skip
        all_goals first | exact RS_rdk m (RS_84 Rd) (by omega) (by omega) (by omega) | skip
        all_goals exact kk _ _ _ _ (RS_sk0 m (RS_84 Rd) (by omega)) (Or.inr ⟨by omega, rfl, by omega⟩)
  · have Rb := RS_fgN (h := 3) m Ra (by omega) h1
    have Db := RS_rdk m Rb (by omega) (by omega) (by omega)
    have LB := RS_lk m Rb (by omega)
    have wb := Rb.2.1
    have Rc := RS_19 (x := 0) Rb
    have Dc := RS_rdk m Rc (by omega) (by omega) (by omega)
    have Rd := RS_fg0 (h := 3) m Rc (by omega)
    have wd := Rd.2.1
    have hfR : fR n sg q = q + 1 := by
      unfold fR
      rw [if_pos (by omega)]
    apply t_X6_readsPair t0 t4 (by omega) <;> intros
    all_goals first | omega | exact Da | exact Db | exact Dc | skip
    all_goals first | exact RS_rdk m (RS_84 Rd) (by omega) (by omega) (by omega) | skip
    all_goals exact kk _ _ _ _ (RS_sk0 m (RS_84 Rd) (by omega)) (Or.inr ⟨by omega, rfl, by omega⟩)
def drc (n : Int) (sg : Int → Int) (x : Int → Int) (p m c : Int) : Int → Int := fun j => if m + 1 ≤ j ∧ j < m + 1 + c then at_ n sg (p + 1 + (j - (m + 1))) - 48 else x j
theorem drc_0 {x : Int → Int} {m : Int} : drc n sg x p m 0 = x := by
  funext j
  unfold drc
  rw [if_neg (by omega)]
theorem drc_up {x : Int → Int} {m c v : Int} (c0 : 0 ≤ c) (hv : v = at_ n sg (p + 1 + c) - 48) : setf (drc n sg x p m c) (m + 1 + c) v = drc n sg x p m (c + 1) := by
  funext j
  unfold setf drc
  by_cases h1 : j = m + 1 + c
  · rw [if_pos h1, if_pos (by omega), hv, show p + 1 + (j - (m + 1)) = p + 1 + c by omega]
  · rw [if_neg h1]
    by_cases h2 : m + 1 ≤ j ∧ j < m + 1 + c
    · rw [if_pos h2, if_pos (by omega)]
    · rw [if_neg h2, if_neg (by omega)]
theorem sp_readsGuestM (m : mtt s t n sg) (hw : s 77 19 = 1) (p0 : 0 ≤ s 77 18) (pn : s 77 18 < n) (c0 : 0 ≤ s 84 0) (c6 : s 84 0 ≤ 6) (q : Int) (hq : q = s 77 18) (kk : ∀ (s' : m_St) (w' p' : Int) (dr' : Int → Int), RS s s' w' p' dr' → ((fG n sg q (s 84 0) = -9 ∧ w' = 1 ∧ p' = skb n sg (q + 5) ∧ dr' = setf (setf (drc n sg (s 84) q (8 + 5 * s 84 0) 4) (8 + 5 * s 84 0) (kOf (at_ n sg q))) 0 (s 84 0 + 1)) ∨ (¬ fG n sg q (s 84 0) = -9 ∧ w' = 0 ∧ p' = fG n sg q (s 84 0))) → P none s') : Cl X (d + 2) 179 [vR 77, vI t] s P := by
  obtain ⟨t0, t4, ht, e1, e2⟩ := m
  have m : mtt s t n sg := ⟨t0, t4, ht, e1, e2⟩
  have n6 := ht.2.1
  have R0 : RS s s 1 q (s 84) := by have := RS_rfl (s := s); rw [hw, ← hq] at this; exact this
  rw [← hq] at p0 pn
  have hq2 : s 77 18 = q := hq.symm
  have b0 := lkp_r ht (p := q) (by omega)
  have D0 := RS_rdk m R0 (by omega) (by omega) (by omega)
  have L0 := RS_lk m R0 (by omega)
  have lr := lkM_r D0
  have ek : kOf (lkp n sg q) = kOf (at_ n sg q) := by rw [show lkp n sg q = at_ n sg q by omega]
  have kr := kOf_r (at_ n sg q)
  -- what comes when it is not well
  have bad : ∀ (s1 : m_St) (k mm c p1 : Int) (dr : Int → Int), (0 ≤ c ∧ c ≤ 4) → RS s s1 0 p1 dr → 0 ≤ p1 → p1 ≤ 400 → ¬ fG n sg q (s 84 0) = -9 → p1 = fG n sg q (s 84 0) → Rn X (d + 2) 179 86 [some (vR 77), some (vI t), some (vI k), some (vI mm), some (vI c)] [] s1 P := by
    intro s1 k mm c p1 dr hc r hp hp2 hf1 hf2
    have D := RS_rdk m r (by omega) (by omega) (by omega)
    have w19 := r.2.1
    apply t_X6_readsGuest_86 t0 t4 hc.1 <;> intros
    all_goals first | omega | exact D | exact kk _ _ _ _ (RS_sk0 m r hp) (Or.inr ⟨hf1, rfl, hf2⟩)
  by_cases hk : kOf (at_ n sg q) = -9
  · have hfG : fG n sg q (s 84 0) = q := by unfold fG; rw [if_pos (Or.inl (by omega))]
    apply t_X6_readsGuest t0 t4 (by omega) <;> intros
    all_goals first | omega | exact D0 | skip
    all_goals first | (refine bad _ _ _ _ _ _ (by omega) (RS_18 (RS_19 R0)) (by omega) (by omega) (by omega) (by omega)) | skip
    all_goals (exfalso; rw [L0, ek] at *; omega)
  · by_cases h6 : 6 ≤ s 84 0
    · have hfG : fG n sg q (s 84 0) = q := by unfold fG; rw [if_pos (Or.inr h6)]
      apply t_X6_readsGuest t0 t4 (by omega) <;> intros
      all_goals first | omega | exact D0 | skip
      all_goals first | (refine bad _ _ _ _ _ _ (by omega) (RS_18 (RS_19 R0)) (by omega) (by omega) (by omega) (by omega)) | skip
    · have good : ∀ (mm : Nat) (c : Int) (s1 : m_St), 0 ≤ c → c + mm = 4 → (∀ i, 0 ≤ i → i < c → 0 ≤ at_ n sg (q + 1 + i) - 48 ∧ at_ n sg (q + 1 + i) - 48 < 10) → RS s s1 1 (q + 1 + c) (drc n sg (s 84) q (8 + 5 * s 84 0) c) → Rn X (d + 2) 179 86 [some (vR 77), some (vI t), some (vI (kOf (lkM s t))), some (vI (8 + 5 * s 84 0)), some (vI c)] [] s1 P := by
        intro mm
        induction mm with
        | zero =>
          intro c s1 hc hm hd r
          have c4 : c = 4 := by omega
          subst c4
          have w19 := r.2.1
          have d0 := hd 0 (by omega) (by omega)
          have d1 := hd 1 (by omega) (by omega)
          have d2 := hd 2 (by omega) (by omega)
          have d3 := hd 3 (by omega) (by omega)
          rw [show q + 1 + 0 = q + 1 by omega] at d0
          rw [show q + 1 + 1 = q + 2 by omega] at d1
          rw [show q + 1 + 2 = q + 3 by omega] at d2
          rw [show q + 1 + 3 = q + 4 by omega] at d3
          have hfG : fG n sg q (s 84 0) = -9 := by
            unfold fG
            rw [if_neg (by omega), if_neg (by omega), if_neg (by omega), if_neg (by omega), if_neg (by omega)]
          have Rz := RS_84 (j := 0) (v := s 84 0 + 1) (RS_84 (j := 8 + 5 * s 84 0) (v := kOf (lkM s t)) r)
          have ez : m_upd s1 84 (8 + 5 * s 84 0) (kOf (lkM s t)) 84 0 = s 84 0 := by
            rw [upd_nj (by omega), r.2.2.2]
            unfold drc
            rw [if_neg (by omega)]
          apply t_X6_readsGuest_86 t0 t4 hc <;> intros
          all_goals first | omega | skip
          · rw [ez]
            exact RS_rdk m Rz (by omega) (by omega) (by omega)
          · rw [ez]
            refine kk _ _ _ _ (RS_sk1 m Rz (by omega)) (Or.inl ⟨hfG, rfl, by rw [show q + 1 + 4 = q + 5 by omega], ?_⟩)
            rw [L0, ek]
        | succ mm ih =>
          intro c s1 hc hm hd r
          have w19 := r.2.1
          have D := RS_rdk m r (by omega) (by omega) (by omega)
          have LC := RS_lk m r (by omega)
          have bc_ := lkp_r ht (p := q + 1 + c) (by omega)
          apply t_X6_readsGuest_86 t0 t4 hc <;> intros
          all_goals first | omega | exact D | skip
          by_cases hdg : 48 ≤ lkp n sg (q + 1 + c) ∧ lkp n sg (q + 1 + c) ≤ 48 + 9
          · have Rb := RS_fgY (h := 9) m r (by omega) hdg
            have Rz := RS_84 (j := 8 + 5 * s 84 0 + 1 + c) (v := lkM s1 t - 48) Rb
            rw [drc_up hc (by rw [LC, show lkp n sg (q + 1 + c) = at_ n sg (q + 1 + c) by omega]), show q + 1 + c + 1 = q + 1 + (c + 1) by omega] at Rz
            refine ih (c + 1) _ (by omega) (by omega) (fun i i0 i1 => ?_) Rz
            by_cases hi : i = c
            · subst hi; omega
            · exact hd i i0 (by omega)
          · have Rb := RS_fgN (h := 9) m r (by omega) hdg
            have Rz := RS_84 (j := 8 + 5 * s 84 0 + 1 + c) (v := lkM s1 t - 48) Rb
            have hfG : fG n sg q (s 84 0) = q + 1 + c := by
              unfold fG
              rw [if_neg (by omega)]
              have hcc : c = 0 ∨ c = 1 ∨ c = 2 ∨ c = 3 := by omega
              rcases hcc with rfl | rfl | rfl | rfl
              · rw [show q + 1 + 0 = q + 1 by omega] at hdg bc_ ⊢
                rw [if_pos (by omega)]
              · have d0 := hd 0 (by omega) (by omega)
                rw [show q + 1 + 0 = q + 1 by omega] at d0
                rw [show q + 1 + 1 = q + 2 by omega] at hdg bc_ ⊢
                rw [if_neg (by omega), if_pos (by omega)]
              · have d0 := hd 0 (by omega) (by omega)
                have d1 := hd 1 (by omega) (by omega)
                rw [show q + 1 + 0 = q + 1 by omega] at d0
                rw [show q + 1 + 1 = q + 2 by omega] at d1
                rw [show q + 1 + 2 = q + 3 by omega] at hdg bc_ ⊢
                rw [if_neg (by omega), if_neg (by omega), if_pos (by omega)]
              · have d0 := hd 0 (by omega) (by omega)
                have d1 := hd 1 (by omega) (by omega)
                have d2 := hd 2 (by omega) (by omega)
                rw [show q + 1 + 0 = q + 1 by omega] at d0
                rw [show q + 1 + 1 = q + 2 by omega] at d1
                rw [show q + 1 + 2 = q + 3 by omega] at d2
                rw [show q + 1 + 3 = q + 4 by omega] at hdg bc_ ⊢
                rw [if_neg (by omega), if_neg (by omega), if_neg (by omega), if_pos (by omega)]
            exact bad _ _ _ _ _ _ (by omega) Rz (by omega) (by omega) (by omega) (by omega)
      apply t_X6_readsGuest t0 t4 (by omega) <;> intros
      all_goals first | omega | exact D0 | skip
      all_goals first | (exfalso; rw [L0, ek] at *; omega) | skip
      refine good 4 0 _ (by omega) (by omega) (fun i i0 i1 => by omega) ?_
      rw [drc_0, hq2, show q + 1 + 0 = q + 1 by omega]
      exact RS_18 (RS_19 R0)
end SPRD
