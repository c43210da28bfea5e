/-! calls side by side: in how many ways -/
theorem gC_r {k0 k1 R c : Int} : ∀ (m : Nat) (w : Int → Int), 0 ≤ gC k0 k1 R c m w ∧ gC k0 k1 R c m w ≤ ((8 ^ m : Nat) : Int) := by
  intro m
  induction m with
  | zero =>
    intro w
    unfold gC
    by_cases h : scd k0 k1 c w
    · rw [if_pos h]; exact ⟨by decide, by decide⟩
    · rw [if_neg h]; exact ⟨by decide, by decide⟩
  | succ m ih =>
    intro w
    have go : ∀ n : Nat, 0 ≤ sm (fun a => @ite _ (cnb k0 k1 w a) (Classical.propDecidable _) (gC k0 k1 R c m (utw k0 k1 R w a)) 0) n ∧ sm (fun a => @ite _ (cnb k0 k1 w a) (Classical.propDecidable _) (gC k0 k1 R c m (utw k0 k1 R w a)) 0) n ≤ (n : Int) * ((8 ^ m : Nat) : Int) := by
      intro n
      induction n with
      | zero =>
        show (0 : Int) ≤ 0 ∧ (0 : Int) ≤ ((0 : Nat) : Int) * _
        omega
      | succ n ihn =>
        rw [sm_s]
        have h1 := ih (utw k0 k1 R w n)
        have e : ((n + 1 : Nat) : Int) * ((8 ^ m : Nat) : Int) = (n : Int) * ((8 ^ m : Nat) : Int) + ((8 ^ m : Nat) : Int) := by rw [show ((n + 1 : Nat) : Int) = (n : Int) + 1 by omega, Int.add_mul, Int.one_mul]
        rw [e]
        by_cases h : cnb k0 k1 w n
        · rw [if_pos h]; omega
        · rw [if_neg h]; omega
    have := go 8
    have e8 : ((8 ^ (m + 1) : Nat) : Int) = ((8 : Nat) : Int) * ((8 ^ m : Nat) : Int) := by rw [Nat.pow_succ, Nat.mul_comm]; omega
    rw [e8]
    exact this
theorem gC_5 {k0 k1 R c : Int} {m : Nat} {w : Int → Int} (h : m ≤ 5) : 0 ≤ gC k0 k1 R c m w ∧ gC k0 k1 R c m w ≤ 32768 := by
  have h1 := gC_r (k0 := k0) (k1 := k1) (R := R) (c := c) m w
  have h2 : (8 ^ m : Nat) ≤ 8 ^ 5 := Nat.pow_le_pow_right (by decide) h
  have h3 : (8 ^ 5 : Nat) = 32768 := by decide
  omega
theorem gI_r {k0 k1 R c : Int} (c0 : 0 ≤ c) (c1 : c < 16) {m : Nat} {w : Int → Int} (hw : w8 w) : 0 ≤ gI k0 k1 R c m w ∧ gI k0 k1 R c m w < 16 := by
  rw [gI_iT c0 c1 m w hw]
  exact iT_r _ _ _ _ _ _
theorem iAnd_16 {a b : Int} (a0 : 0 ≤ a) (a1 : a < 16) (b0 : 0 ≤ b) (b1 : b < 16) : 0 ≤ iAnd a b ∧ iAnd a b < 16 := by
  obtain ⟨x, hx⟩ := fin16 a0 a1
  obtain ⟨y, hy⟩ := fin16 b0 b1
  rw [← hx, ← hy]
  have : ∀ x y : Fin 16, 0 ≤ iAnd ((x : Nat) : Int) ((y : Nat) : Int) ∧ iAnd ((x : Nat) : Int) ((y : Nat) : Int) < 16 := by decide +kernel
  exact this x y
section OPX
variable {X : List Int32} {d : Nat} {s : m_St} {P : Option Value → m_St → Prop} {c n k0 k1 R : Int}
theorem ways_M (ho : opk s k0 k1 R) (hw : w8 (wt s 0)) (c0 : 0 ≤ c) (c1 : c < 16) (n0 : 0 ≤ n) (n5 : n ≤ 5)
    (kk : ∀ s', frS s s' → P (some (vI 1)) (m_upd (m_upd (m_upd s' 77 12 (gC k0 k1 R c n.toNat (wt s 0))) 77 13 1) 77 11 (if gC k0 k1 R c n.toNat (wt s 0) = 0 then 0 else iAnd 15 (gI k0 k1 R c n.toNat (wt s 0))))) :
    Cl X (d + 4) 227 [vR 77, vI n, vI 1] s (fun v s' => Rn X (d + 5) 228 47 [some (vR 77), some (vI c), some (vI n), some (vI 0), some (vI 15), none, none] (m_push v []) s' P) := by
  have bnd := gC_5 (k0 := k0) (k1 := k1) (R := R) (c := c) (m := n.toNat) (w := wt s 0) (by omega)
  have lv0 : ∀ w x, w8 w → 0 ≤ x.2 → x.2 < 16 → 0 ≤ (lvW k0 k1 R c 0 w x).2 ∧ (lvW k0 k1 R c 0 w x).2 < 16 := fun w x h8 x0 x1 => by
    have := gI_r (k0 := k0) (k1 := k1) (R := R) (m := 0) c0 c1 h8
    exact iAnd_16 x0 x1 this.1 this.2
  -- the end of it
  have done : ∀ s' z6 x, frS s s' → x = lvW k0 k1 R c n.toNat (wt s 0) (0, 15) → Rn X (d + 5) 228 49 [some (vR 77), some (vI c), some (vI n), some (vI x.1), some (vI x.2), some (vI 0), z6] [] s' P := by
    intro s' z6 x hf hx
    have hk := kk s' hf
    have e1 : x.1 = gC k0 k1 R c n.toNat (wt s 0) := by rw [hx]; exact Int.zero_add _
    have e2 : x.2 = iAnd 15 (gI k0 k1 R c n.toNat (wt s 0)) := by rw [hx]; rfl
    rw [e1, e2]
    by_cases hz : gC k0 k1 R c n.toNat (wt s 0) = 0
    · rw [if_pos hz] at hk
      apply t_X6_ways_49 <;> intros
      all_goals first | omega | exact hk
    · rw [if_neg hz] at hk
      apply t_X6_ways_49 <;> intros
      all_goals first | omega | exact hk
  -- one more talk
  have leaf : ∀ s' z6 x, opk s' k0 k1 R → w8 (wt s' n) → 0 ≤ x.2 → x.2 < 16 → (∀ z : Int, Cl X (d + 4) 227 [vR 77, vI n, vI 0] s' (fun v s2 => Rn X (d + 5) 228 112 [some (vR 77), some (vI c), some (vI n), some (vI (lvW k0 k1 R c 0 (wt s' n) x).1), some (vI (lvW k0 k1 R c 0 (wt s' n) x).2), some (vI 1), some (vI z)] (m_push v []) s2 P)) → Rn X (d + 5) 228 49 [some (vR 77), some (vI c), some (vI n), some (vI x.1), some (vI x.2), some (vI 1), z6] [] s' P := by
    intro s' z6 x ho' hw' x0 x1 hn
    have hoS : opS s' := by unfold opS; rw [ho'.1, ho'.2.1, ho'.2.2.2.2.2.2.1]; exact ho'
    have e0 : hW s' n 0 = hA k0 (wt s' n) := by unfold hW; rw [if_pos rfl, ho'.1]
    have e1 : hW s' n 1 = hB k1 (wt s' n) := by unfold hW; rw [if_neg (by decide), ho'.2.1]
    have es : iAnd (hW s' n 0) (hW s' n 1) = shw k0 k1 (wt s' n) := by rw [e0, e1]; rfl
    have hs : scd k0 k1 c (wt s' n) ↔ iAnd c (iXor (iAnd (hW s' n 0) (hW s' n 1)) (-1)) = 0 := by rw [es]; exact Iff.rfl
    by_cases h : scd k0 k1 c (wt s' n)
    · have eC : gC k0 k1 R c 0 (wt s' n) = 1 := by unfold gC; rw [if_pos h]
      have eI : gI k0 k1 R c 0 (wt s' n) = shw k0 k1 (wt s' n) := by unfold gI; rw [if_pos h]
      have e : lvW k0 k1 R c 0 (wt s' n) x = (x.1 + 1, iAnd x.2 (iAnd (hW s' n 0) (hW s' n 1))) := by unfold lvW; rw [eC, eI, es]
      rw [e] at hn
      have h2 := hs.mp h
      have h3 := hn 1
      clear hn
      apply t_X6_ways_49 <;> intros
      all_goals first | exact h3 | exact hoS | exact hw' | exact absurd h2 (by assumption) | omega
    · have eC : gC k0 k1 R c 0 (wt s' n) = 0 := by unfold gC; rw [if_neg h]
      have eI : gI k0 k1 R c 0 (wt s' n) = 15 := by unfold gI; rw [if_neg h]
      have e : lvW k0 k1 R c 0 (wt s' n) x = (x.1, iAnd x.2 15) := by unfold lvW; rw [eC, eI, Int.add_zero]
      rw [e] at hn
      have h2 : ¬ iAnd c (iXor (iAnd (hW s' n 0) (hW s' n 1)) (-1)) = 0 := fun z => h (hs.mpr z)
      have h3 := hn 0
      clear hn
      apply t_X6_ways_49 <;> intros
      all_goals first | exact h3 | exact hoS | exact hw' | exact absurd (by assumption) h2 | omega
  by_cases hz : n = 0
  · subst hz
    have hw2 : wt (m_upd s 90 0 (-1)) 0 = wt s 0 := wt_90
    have hf2 : frS s (m_upd s 90 0 (-1)) := fun x j _ c2 => upd_nc c2
    have first : Rn X (d + 5) 228 49 [some (vR 77), some (vI c), some (vI 0), some (vI 0), some (vI 15), some (vI 1), none] [] (m_upd s 90 0 (-1)) P := by
      refine leaf (m_upd s 90 0 (-1)) none (0, 15) (opk_kep (q := 0) ho hf2) (by rw [hw2]; exact hw) (by decide) (by decide) (fun z => ?_)
      rw [hw2]
      have z2 := t_X6_ways_112 (X := X) (d := d) (b := 1) (k := z) (rv := 0) (done (m_upd s 90 0 (-1)) (some (vI z)) _ hf2 rfl)
      apply t_X6_nextTalk (by omega) (by omega) <;> intros
      all_goals first | omega | skip
      apply t_X6_nextTalk_23 (by omega) (by omega) <;> intros
      all_goals first | omega | exact z2
    have first2 := t_X6_ways_47 (X := X) (d := d) (rv := 1) first
    apply t_X6_nextTalk (by omega) (by omega) <;> intros
    all_goals first | omega | skip
    apply t_X6_nextTalk_23 (by omega) (by omega) <;> intros
    all_goals first | omega | exact first2
  · have n1 : 1 ≤ n := by omega
    have srch := srch3 (X := X) (d := d) (n := n) (k0 := k0) (k1 := k1) (R := R) (c := c) (A := fun f x Q => (f = 0 ∨ f = 1) ∧ (0 ≤ x.2 ∧ x.2 < 16) ∧ ∃ z6, ∀ rv s', Rn X (d + 5) 228 49 [some (vR 77), some (vI c), some (vI n), some (vI x.1), some (vI x.2), some (vI rv), z6] [] s' P → Q (some (vI rv)) s') n1 n5 (fun f x Q h => ⟨h.1, h.2.1⟩) (fun f x Q s' hA ho' hw' => by
      obtain ⟨_, hx, z6, hq⟩ := hA
      have hx' := lv0 (wt s' n) x hw' hx.1 hx.2
      have hzz : ∃ z : Int, (Cl X (d + 4) 227 [vR 77, vI n, vI 0] s' (fun v s2 => Rn X (d + 5) 228 112 [some (vR 77), some (vI c), some (vI n), some (vI (lvW k0 k1 R c 0 (wt s' n) x).1), some (vI (lvW k0 k1 R c 0 (wt s' n) x).2), some (vI 1), some (vI z)] (m_push v []) s2 P)) → Rn X (d + 5) 228 49 [some (vR 77), some (vI c), some (vI n), some (vI x.1), some (vI x.2), some (vI 1), z6] [] s' P := by
        refine Classical.byContradiction (fun hno => ?_)
        have hall : ∀ z : Int, (Cl X (d + 4) 227 [vR 77, vI n, vI 0] s' (fun v s2 => Rn X (d + 5) 228 112 [some (vR 77), some (vI c), some (vI n), some (vI (lvW k0 k1 R c 0 (wt s' n) x).1), some (vI (lvW k0 k1 R c 0 (wt s' n) x).2), some (vI 1), some (vI z)] (m_push v []) s2 P)) ∧ ¬ Rn X (d + 5) 228 49 [some (vR 77), some (vI c), some (vI n), some (vI x.1), some (vI x.2), some (vI 1), z6] [] s' P := fun z => Classical.byContradiction (fun hz => hno ⟨z, fun hc => Classical.byContradiction (fun hr => hz ⟨hc, hr⟩)⟩)
        exact (hall 0).2 (leaf s' z6 x ho' hw' hx.1 hx.2 (fun z => (hall z).1))
      obtain ⟨z, hz⟩ := hzz
      refine ⟨0, fun v s2 => Rn X (d + 5) 228 112 [some (vR 77), some (vI c), some (vI n), some (vI (lvW k0 k1 R c 0 (wt s' n) x).1), some (vI (lvW k0 k1 R c 0 (wt s' n) x).2), some (vI 1), some (vI z)] (m_push v []) s2 P, ⟨Or.inl rfl, hx', some (vI z), fun rv s2 h2 => t_X6_ways_112 h2⟩, fun hr => hq 1 s' (hz ?_)⟩
      apply t_X6_nextTalk n0 n5 <;> intros
      all_goals first | omega | exact hr)
    have hgn : n.toNat = (n - 1).toNat + 1 := by omega
    have w90 : wt (m_upd s 90 0 (-1)) 0 = wt s 0 := wt_90
    have go := srch (n - 1).toNat 8 (-1) 0 (m_upd s 90 0 (-1)) 1 (0, 15) (fun v s' => Rn X (d + 5) 228 47 [some (vR 77), some (vI c), some (vI n), some (vI 0), some (vI 15), none, none] (m_push v []) s' P) ⟨Or.inr rfl, ⟨by decide, by decide⟩, none, fun rv s2 h2 => t_X6_ways_47 h2⟩ (by omega) (by omega) (by omega) upd_eq (opk_kep (q := 0) ho (fun x j _ c2 => upd_nc c2)) (by rw [w90]; exact hw) (by omega) (fun s' f' Q' hA' hk' => by
      rw [w90, show (-1 : Int) + 1 = 0 by decide, tlW_8 ⟨by decide, by decide⟩, ← hgn] at hA'
      have hf2 : frS s s' := fun x j c1 c2 => by rw [hk'.1 x j c1 c2, upd_nc c2]
      obtain ⟨rf', _, z6, hq⟩ := hA'
      have z := hq 0 s' (done s' z6 _ hf2 rfl)
      apply t_X6_nextTalk_23 n0 n5 <;> intros
      all_goals first | omega | exact z)
    apply t_X6_nextTalk n0 n5 <;> intros
    all_goals first | omega | exact go
theorem J_told3 {s t : m_St} (h : J s) (e : ∀ c j, ¬ (c = 0 ∧ 9 ≤ j ∧ j ≤ 11) → ¬ (66 ≤ c ∧ c ≤ 75) → ¬ c = 80 → ¬ c = 84 → ¬ (88 ≤ c ∧ c ≤ 91) → ¬ (c = 77 ∧ 11 ≤ j) → t c j = s c j) (ht : tkok t) (h72 : ∀ i, inR (t 72 i)) (h9 : t 77 11 = t 0 9) (h10 : t 77 12 = t 0 10) (h11 : t 77 13 = t 0 11) : J t := by
  have J2 : J (fun c j => if (c = 0 ∧ 9 ≤ j ∧ j ≤ 11) ∨ (c = 77 ∧ 11 ≤ j ∧ j ≤ 13) then s c j else t c j) := J_scr h (fun c j h1 h2 h3 h4 h5 => by
    by_cases h0 : (c = 0 ∧ 9 ≤ j ∧ j ≤ 11) ∨ (c = 77 ∧ 11 ≤ j ∧ j ≤ 13)
    · exact if_pos h0
    · exact (if_neg h0).trans (e c j (by omega) h1 h2 h3 h4 (by omega))) (tkok_cong (fun c j c0 c1 => if_neg (by omega)) ht) (fun i => by
      have : (if ((72 : Int) = 0 ∧ 9 ≤ i ∧ i ≤ 11) ∨ ((72 : Int) = 77 ∧ 11 ≤ i ∧ i ≤ 13) then s 72 i else t 72 i) = t 72 i := if_neg (by omega)
      show inR (if _ then _ else _)
      rw [this]; exact h72 i)
  refine J_ans J2 (fun c j h0 h7 => (if_neg (by omega)).symm) ?_ ?_ h9 h10 h11
  · exact (if_neg (by omega)).symm
  · exact (if_neg (by omega)).symm
theorem op_ways (h : J s) (rc : inR c) (rn : inR n) : Cl X (d + 20) 116 [vR 0, vI c, vI n] s (Pw X (d + 20) 228 [vR 77, vI c, vI n]) := by
  have h7 := J_7 h
  have u60 : s 83 5 ≤ 6 := h7.2.2.1
  have base : ∀ v, (v = -1 ∧ (c < 0 ∨ 15 < c ∨ n < 0 ∨ 5 < n)) ∨ (v = -4 ∧ 0 ≤ c ∧ c ≤ 15 ∧ 0 ≤ n ∧ n ≤ 5 ∧ s 83 5 ≤ 0) → Pw X (d + 20) 228 [vR 77, vI c, vI n] (some (vI v)) s := by
    intro v hv
    rcases hv with ⟨rfl, hv⟩ | ⟨rfl, hv⟩
    · refine Pw_mk ?_
      apply t_X6_ways <;> intros
      all_goals first | exact rc | exact rn | omega | exact ⟨rfl, h⟩
    · refine Pw_mk ?_
      apply t_X6_ways <;> intros
      all_goals first | exact rc | exact rn | omega | exact ⟨rfl, h⟩
  by_cases hb : 0 ≤ c ∧ c ≤ 15 ∧ 0 ≤ n ∧ n ≤ 5
  · obtain ⟨c0, c15, n0, n5⟩ := hb
    by_cases hu : s 38 7 = -1
    · have fin := base (-4) (Or.inr ⟨rfl, c0, c15, n0, n5, by omega⟩)
      clear base
      apply t_X5_ways <;> intros
      all_goals first | exact rc | exact rn | omega | exact fin
    · clear base
      obtain ⟨hup, huk, e7, e8, l7, l8⟩ := J_up h hu
      have u := huk.u
      have h06 := huk.1.1.2.1
      obtain ⟨Jt, _, _⟩ := J_tka h hu
      have ht := tpr_tka h hu
      have hw0 : w8 (W0 (s 83) (s 83 5 - 1) (s 83 6 - 1)) := w8_W0 huk.1 u.1 u.2.1 u.2.2.1 u.2.2.2
      generalize hk0 : s 83 (8 + 5 * (s 83 5 - 1)) = k0 at ht
      generalize hk1 : s 83 (8 + 5 * (s 83 6 - 1)) = k1 at ht
      generalize hW : W0 (s 83) (s 83 5 - 1) (s 83 6 - 1) = W at ht hw0
      -- what the class has counted
      generalize hS : tlS (tka s) c n = S
      have eS : ∀ x j, ¬ (66 ≤ x ∧ x ≤ 70) → S x j = s x j := fun x j hx => by
        rw [← hS]
        unfold tlS taS
        rw [upd_nc (by omega), upd_nc (by omega), upd_nc (by omega), upd_nc (by omega), upd_nc (by omega), tka_o hx]
      have tk : tkok S := tkok_cong (fun x j x0 x1 => by
        rw [← hS]
        unfold tlS taS
        rw [upd_o2 (by omega), upd_o2 (by omega), upd_o2 (by omega), upd_o2 (by omega), upd_o2 (by omega)]) ht.1
      have c5 : S 66 5 = gC k0 k1 (s 38 5) c n.toNat W ∧ S 66 6 = iAnd 15 (gI k0 k1 (s 38 5) c n.toNat W) := by
        have o : ∀ a i, ¬ (a = 66 ∧ 4 ≤ i ∧ i ≤ 6) → (m_upd (m_upd (m_upd (tka s) 66 4 c) 66 5 0) 66 6 15) a i = tka s a i := fun a i ha => by rw [upd_o2 (by omega), upd_o2 (by omega), upd_o2 (by omega)]
        have ewo : wOf (m_upd (m_upd (m_upd (tka s) 66 4 c) 66 5 0) 66 6 15) = wOf (tka s) := by
          funext j
          unfold wOf
          by_cases hj : j < 4
          · rw [if_pos hj, if_pos hj]; exact o _ _ (by omega)
          · rw [if_neg hj, if_neg hj]; exact o _ _ (by omega)
        have e4 : (m_upd (m_upd (m_upd (tka s) 66 4 c) 66 5 0) 66 6 15) 66 4 = c := by rw [upd_nj (by omega), upd_nj (by omega), upd_eq]
        have e5 : (m_upd (m_upd (m_upd (tka s) 66 4 c) 66 5 0) 66 6 15) 66 5 = 0 := by rw [upd_nj (by omega), upd_eq]
        have e6 : (m_upd (m_upd (m_upd (tka s) 66 4 c) 66 5 0) 66 6 15) 66 6 = 15 := upd_eq
        have q := eqv_tpr ht
        rw [← hS]
        unfold tlS taS
        rw [upd_nj (by omega), upd_eq, upd_eq, ewo, e4, e5, e6, o 67 1 (by omega), o 69 1 (by omega), o 66 2 (by omega), ht.2.1, ht.2.2.1, ht.2.2.2.1, gC_cT c0 (by omega) _ _ hw0, gI_iT c0 (by omega) _ _ hw0, cT_eqv _ _ _ q, iT_eqv _ _ _ q]
        exact ⟨by omega, rfl⟩
      have bnd := gC_5 (k0 := k0) (k1 := k1) (R := s 38 5) (c := c) (m := n.toNat) (w := W) (by omega)
      have hc0 := cmpJ_0 (b := S 66 5) (by rw [c5.1]; unfold inJ; omega)
      -- the reference beside it
      have mid : ∀ t : m_St, (∀ x j, ¬ (x = 0 ∧ 9 ≤ j ∧ j ≤ 11) → t x j = S x j) → t 0 10 = gC k0 k1 (s 38 5) c n.toNat W → t 0 11 = 1 → t 0 9 = (if gC k0 k1 (s 38 5) c n.toNat W = 0 then 0 else iAnd 15 (gI k0 k1 (s 38 5) c n.toNat W)) → Pw X (d + 20) 228 [vR 77, vI c, vI n] (some (vI 1)) t := by
        intro t ft t10 t11 t9
        have x5 : t 83 5 = s 83 5 := by rw [ft 83 5 (by omega), eS 83 5 (by omega)]
        have x6 : t 83 6 = s 83 6 := by rw [ft 83 6 (by omega), eS 83 6 (by omega)]
        have e83 : t 83 = s 83 := funext fun q => by rw [ft 83 q (by omega), eS 83 q (by omega)]
        have e38 : t 38 5 = s 38 5 := by rw [ft 38 5 (by omega), eS 38 5 (by omega)]
        have opn : ∀ s9, qOp t (t 83 5 - 1) (t 83 6 - 1) s9 → Cl X (d + 19) 227 [vR 77, vI n, vI 1] s9 (fun v s' => Rn X (d + 20) 228 47 [some (vR 77), some (vI c), some (vI n), some (vI 0), some (vI 15), none, none] (m_push v []) s' (fun v2 s2 => v2 = some (vI 1) ∧ J s2)) := by
          intro s9 hq
          rw [x5, x6] at hq
          obtain ⟨ho, hw9, hw8⟩ := opk_of huk.1 u.1 u.2.1 u.2.2.1 u.2.2.2 hq e83 e38
          rw [hk0, hk1] at ho
          rw [hW] at hw9
          refine ways_M (d := d + 15) ho hw8 c0 (by omega) n0 n5 (fun s' hf => ⟨rfl, ?_⟩)
          rw [hw9, ← t9, ← t10]
          have f9 : ∀ x j, ¬ (88 ≤ x ∧ x ≤ 90) → s' x j = t x j := fun x j hx => by rw [hf x j (by omega) (by omega), hq.1 x j (by omega) (by omega)]
          refine J_told3 h (fun x j h1 h2 h3 h4 h5 h6 => ?_) (tkok_cong (fun x j x0 x1 => ?_) tk) (fun i => ?_) ?_ ?_ ?_
          · rw [upd_o2 (by omega), upd_o2 (by omega), upd_o2 (by omega), f9 x j (by omega), ft x j h1, eS x j (by omega)]
          · rw [upd_nc (by omega), upd_nc (by omega), upd_nc (by omega), f9 x j (by omega), ft x j (by omega)]
          · rw [upd_nc (by omega), upd_nc (by omega), upd_nc (by omega), f9 72 i (by omega), ft 72 i (by omega), eS 72 i (by omega)]
            exact h.2.2.2.2.2.2.2 i
          · rw [upd_eq, upd_nc (by omega), upd_nc (by omega), upd_nc (by omega), f9 0 9 (by omega)]
          · rw [upd_nj (by omega), upd_nj (by omega), upd_eq, upd_nc (by omega), upd_nc (by omega), upd_nc (by omega), f9 0 10 (by omega)]
          · rw [upd_nj (by omega), upd_eq, upd_nc (by omega), upd_nc (by omega), upd_nc (by omega), f9 0 11 (by omega), t11]
        refine Pw_mk ?_
        apply t_X6_ways <;> intros
        all_goals first | exact rc | exact rn | omega | (exact opn _ (by assumption))
      rw [c5.1] at hc0
      apply t_X5_ways <;> intros
      all_goals (try rw [hS] at *)
      all_goals first | exact rc | exact rn | omega | exact hup | exact Jt.2.2.2.2.2.2.1 | skip
      · next hne =>
        rw [c5.1] at hne
        refine mid _ (fun x j hx => by rw [upd_o2 (by omega), upd_o2 (by omega), upd_o2 (by omega)]) ?_ ?_ ?_
        · rw [upd_nj (by omega), upd_nj (by omega), upd_eq, c5.1]
        · rw [upd_nj (by omega), upd_eq]
        · rw [upd_eq, if_neg (fun z => hne (hc0.mpr z)), c5.2]
      · next heq =>
        rw [c5.1] at heq
        refine mid _ (fun x j hx => by rw [upd_o2 (by omega), upd_o2 (by omega), upd_o2 (by omega)]) ?_ ?_ ?_
        · rw [upd_nj (by omega), upd_nj (by omega), upd_eq, c5.1]
        · rw [upd_nj (by omega), upd_eq]
        · rw [upd_eq, if_pos (hc0.mp heq)]
  · have hbn : c < 0 ∨ 15 < c ∨ n < 0 ∨ 5 < n := by omega
    have fin := base (-1) (Or.inl ⟨rfl, hbn⟩)
    clear base
    apply t_X5_ways <;> intros
    all_goals first | exact rc | exact rn | exact fin | omega
end OPX
