/-! calls side by side: chances -/
section CLC
variable {k0 k1 R un : Int} {sc sc' f : Int → Int}
theorem dG_sc : ∀ (m : Nat) (p : Int) (w w' : Int → Int), (∀ j, p ≤ j → j < p + m → sc j = sc' j ∧ 0 ≤ sc j ∧ sc j < 8) → (∀ j, 0 ≤ j → j < 8 → w j = w' j) → dG k0 k1 R un sc f m p w = dG k0 k1 R un sc' f m p w' := by
  intro m
  induction m with
  | zero =>
    intro p w w' _ hw
    show f (shw k0 k1 w) = f (shw k0 k1 w')
    unfold shw
    rw [hA_cong hw, hB_cong hw]
  | succ m ih =>
    intro p w w' hs hw
    obtain ⟨e, s0, s8⟩ := hs p (by omega) (by omega)
    have hc : cnb k0 k1 w (sc p) ↔ cnb k0 k1 w' (sc' p) := by
      unfold cnb
      rw [hA_cong hw, hB_cong hw, e]
    have i1 := ih (p + 1) w w' (fun j j0 j1 => hs j (by omega) (by omega)) hw
    have i2 := ih (p + 1) (utw k0 k1 R w (sc p)) (utw k0 k1 R w' (sc p)) (fun j j0 j1 => hs j (by omega) (by omega)) (utw_cong hw s0 s8)
    by_cases h : cnb k0 k1 w (sc p)
    · rw [dG_y h, dG_y (hc.mp h), i1, i2, e]
    · rw [dG_n h, dG_n (fun z => h (hc.mpr z)), i1]
end CLC
theorem gd_r {a b : Int} (hb : 0 < b) : 0 < gd a b ∧ gd a b ≤ b := by
  unfold gd
  have h1 : 0 < Nat.gcd a.toNat b.toNat := Nat.gcd_pos_of_pos_right _ (by omega)
  have h2 : Nat.gcd a.toNat b.toNat ≤ b.toNat := Nat.gcd_le_right _ (by omega)
  omega
section OPZA
variable {X : List Int32} {d : Nat} {s : m_St} {c r p : Int}
theorem cls_ch (h : J s) (hu : ¬ s 38 7 = -1) (r0 : 0 ≤ r) (r6 : r < 6) (z0 : 0 ≤ s 2 r) (z6 : s 2 r ≤ 6) (ha : asy s r) (p0 : 0 ≤ p) (p12 : p ≤ 12) :
    brok (hs0 (tka s) r p) ∧ (∀ x j, ¬ (66 ≤ x ∧ x ≤ 73) → brS (hs0 (tka s) r p) x j = s x j) ∧ tkok (brS (hs0 (tka s) r p)) ∧ (∀ i, inR (brS (hs0 (tka s) r p) 72 i)) ∧ ∀ g : Int → Int, sm (fun a => g a * brS (hs0 (tka s) r p) 73 a) 16 = dG (s 83 (8 + 5 * (s 83 5 - 1))) (s 83 (8 + 5 * (s 83 6 - 1))) (s 38 5) p (fun j => s 79 (40 * r + j)) g (s 78 r).toNat 0 (W0 (s 83) (s 83 5 - 1) (s 83 6 - 1)) := by
  obtain ⟨Jt, _, _⟩ := J_tka h hu
  have ht := tpr_tka h hu
  obtain ⟨a1, a2, a3, a4⟩ := h.1.2 r r0 r6
  have t2 : tka s 2 r = s 2 r := tka_o (by omega)
  have t4 : ∀ j, tka s (4 + r) j = s (4 + r) j := fun j => tka_o (by omega)
  generalize hS : hs0 (tka s) r p = S
  have o : ∀ x j, ¬ (x = 66 ∧ 8 ≤ j ∧ j ≤ 9) → ¬ x = 72 → ¬ x = 73 → S x j = tka s x j := fun x j h1 h2 h3 => by
    rw [← hS]
    unfold hs0
    rw [fil_o (by omega), upd_o2 (by omega), cpf_o h2, upd_o2 (by omega)]
  have e8 : S 66 8 = s 2 r := by
    rw [← hS]
    unfold hs0
    rw [fil_o (by omega), upd_o2 (by omega), cpf_o (by omega), upd_eq, t2]
  have e9 : S 66 9 = p := by
    rw [← hS]
    unfold hs0
    rw [fil_o (by omega), upd_eq]
  have e72 : ∀ j, 0 ≤ j → j < s 2 r → S 72 j = s (4 + r) j := fun j j0 j1 => by
    rw [← hS]
    unfold hs0
    rw [fil_o (by omega), upd_o2 (by omega), t2, cpf_in j0 j1, t4]
  have e72b : ∀ j, ¬ (0 ≤ j ∧ j < s 2 r) → S 72 j = s 72 j := fun j hj => by
    rw [← hS]
    unfold hs0
    rw [fil_o (by omega), upd_o2 (by omega), t2]
    have : cpf (m_upd (tka s) 66 8 (s 2 r)) 72 (s 2 r) (tka s (4 + r)) 72 j = m_upd (tka s) 66 8 (s 2 r) 72 j := if_neg (fun z => hj z.2)
    rw [this, upd_nc (by omega), tka_o (by omega)]
  have r72 : ∀ i, inR (S 72 i) := fun i => by
    by_cases hi : 0 ≤ i ∧ i < s 2 r
    · rw [e72 i hi.1 hi.2]; exact (a4 i hi.1 hi.2).1
    · rw [e72b i hi]; exact h.2.2.2.2.2.2.2 i
  have e73 : ∀ j, 0 ≤ j → j < 16 → S 73 j = 0 := fun j j0 j1 => by
    rw [← hS]
    unfold hs0
    rw [fil_in j0 j1]
  have tk : tkok S := tkok_cong (fun x j x0 x1 => o x j (by omega) (by omega) (by omega)) ht.1
  have b : ∀ x j, ¬ x = 73 → brS S x j = S x j := fun x j hx => if_neg hx
  refine ⟨⟨tk, by omega, by omega, by omega, by omega, fun i _ _ => r72 i⟩, fun x j hx => ?_, tkok_cong (fun x j x0 x1 => b x j (by omega)) tk, fun i => by rw [b 72 i (by omega)]; exact r72 i, fun g => ?_⟩
  · rw [b x j (by omega), o x j (by omega) (by omega) (by omega), tka_o (by omega)]
  · have k0e : S 67 1 = s 83 (8 + 5 * (s 83 5 - 1)) := by rw [o 67 1 (by omega) (by omega) (by omega)]; exact ht.2.1
    have k1e : S 69 1 = s 83 (8 + 5 * (s 83 6 - 1)) := by rw [o 69 1 (by omega) (by omega) (by omega)]; exact ht.2.2.1
    have Re : S 66 2 = s 38 5 := by rw [o 66 2 (by omega) (by omega) (by omega)]; exact ht.2.2.2.1
    have we : ∀ j, 0 ≤ j → j < 8 → wOf S j = W0 (s 83) (s 83 5 - 1) (s 83 6 - 1) j := fun j j0 j1 => by
      unfold wOf
      by_cases hj : j < 4
      · rw [if_pos hj, o 68 j (by omega) (by omega) (by omega)]
        exact (ht.2.2.2.2 j j0 hj).1
      · rw [if_neg hj, o 70 (j - 4) (by omega) (by omega) (by omega), (ht.2.2.2.2 (j - 4) (by omega) (by omega)).2, show 4 + (j - 4) = j by omega]
    have scr : ∀ j, 0 ≤ j → j < 0 + (((s 2 r).toNat : Nat) : Int) → S 72 j = s 79 (40 * r + j) ∧ 0 ≤ S 72 j ∧ S 72 j < 8 := fun j j0 j1 => by
      rw [e72 j j0 (by omega), (a4 j j0 (by omega)).2]
      exact ⟨rfl, ha j j0 (by omega)⟩
    have e1 : sm (fun a => g a * brS S 73 a) 16 = sm (fun a => g a * dF (S 67 1) (S 69 1) (S 66 2) (S 66 9) (S 72) (S 66 8).toNat 0 (wOf S) a) 16 := sm_cong (fun k hk => by
      show g k * (if (73 : Int) = 73 then _ else _) = _
      rw [if_pos rfl, e73 k (by omega) (by omega), Int.zero_add])
    rw [e1, k0e, k1e, Re, e9, e8, dF_dG _ _ _ (fun j j0 j1 => (scr j j0 j1).2), dG_sc _ _ _ _ scr we, a3]
theorem cho_gb (T : m_St) (c : Int) : cho T c = sm (fun a => (if iAnd (iShr a c) 1 = 0 then 0 else 1) * T 73 a) 16 := sm_cong (fun k hk => by
  by_cases h : iAnd (iShr (k : Int) c) 1 = 0
  · rw [if_pos h, if_pos h, Int.zero_mul]
  · rw [if_neg h, if_neg h, Int.one_mul])
theorem cho_chv {T : m_St} (h : ∀ g : Int → Int, sm (fun a => g a * T 73 a) 16 = dG (s 83 (8 + 5 * (s 83 5 - 1))) (s 83 (8 + 5 * (s 83 6 - 1))) (s 38 5) p (fun j => s 79 (40 * r + j)) g (s 78 r).toNat 0 (W0 (s 83) (s 83 5 - 1) (s 83 6 - 1))) (_e : s 78 r = s 2 r) (c0 : 0 ≤ c) (c4 : c < 4) : cho T c = chv s c r p := by
  rw [cho_gb, h]
  unfold chv
  refine dG_cong (fun x x0 x1 => ?_) _ _ _
  have := bit01 (a := x) (c := c) c0 (by omega)
  unfold fC
  rw [if_neg (show ¬ c = -9 by omega)]
  by_cases hb : iAnd (iShr x c) 1 = 0
  · rw [if_pos hb, hb]
  · rw [if_neg hb]; omega
theorem on4b : ∀ x : Fin 16, ((((if iAnd (iShr ((x : Nat) : Int) 0) 1 = 0 then 0 else 1) + (if iAnd (iShr ((x : Nat) : Int) 1) 1 = 0 then 0 else 1)) + (if iAnd (iShr ((x : Nat) : Int) 2) 1 = 0 then 0 else 1)) + (if iAnd (iShr ((x : Nat) : Int) 3) 1 = 0 then 0 else 1) : Int) = on16 ((x : Nat) : Int) := by decide +kernel
theorem cho4_chv {T : m_St} (h : ∀ g : Int → Int, sm (fun a => g a * T 73 a) 16 = dG (s 83 (8 + 5 * (s 83 5 - 1))) (s 83 (8 + 5 * (s 83 6 - 1))) (s 38 5) p (fun j => s 79 (40 * r + j)) g (s 78 r).toNat 0 (W0 (s 83) (s 83 5 - 1) (s 83 6 - 1))) : ((cho T 0 + cho T 1) + cho T 2) + cho T 3 = chv s (-9) r p := by
  rw [cho_gb, cho_gb, cho_gb, cho_gb, ← sm_add, ← sm_add, ← sm_add]
  have e : ∀ k : Nat, k < 16 → ((((if iAnd (iShr (k : Int) 0) 1 = 0 then 0 else 1) + (if iAnd (iShr (k : Int) 1) 1 = 0 then 0 else 1)) + (if iAnd (iShr (k : Int) 2) 1 = 0 then 0 else 1)) + (if iAnd (iShr (k : Int) 3) 1 = 0 then 0 else 1) : Int) * T 73 k = (if iAnd (iShr (k : Int) 0) 1 = 0 then 0 else 1) * T 73 k + (if iAnd (iShr (k : Int) 1) 1 = 0 then 0 else 1) * T 73 k + (if iAnd (iShr (k : Int) 2) 1 = 0 then 0 else 1) * T 73 k + (if iAnd (iShr (k : Int) 3) 1 = 0 then 0 else 1) * T 73 k := fun k _ => by rw [Int.add_mul, Int.add_mul, Int.add_mul]
  rw [← sm_cong (f' := fun k : Int => ((((if iAnd (iShr k 0) 1 = 0 then 0 else 1) + (if iAnd (iShr k 1) 1 = 0 then 0 else 1)) + (if iAnd (iShr k 2) 1 = 0 then 0 else 1)) + (if iAnd (iShr k 3) 1 = 0 then 0 else 1) : Int) * T 73 k) e, h (fun k : Int => ((((if iAnd (iShr k 0) 1 = 0 then 0 else 1) + (if iAnd (iShr k 1) 1 = 0 then 0 else 1)) + (if iAnd (iShr k 2) 1 = 0 then 0 else 1)) + (if iAnd (iShr k 3) 1 = 0 then 0 else 1) : Int))]
  unfold chv
  refine dG_cong (fun x x0 x1 => ?_) _ _ _
  obtain ⟨y, hy⟩ := fin16 x0 x1
  rw [← hy]
  unfold fC
  rw [if_pos rfl]
  exact on4b y
set_option maxHeartbeats 4000000 in
theorem op_odds (h : J s) (rc : inR c) (rr : inR r) (rp : inR p) : Cl X (d + 20) 135 [vR 0, vI c, vI r, vI p] s (Pw X (d + 20) 240 [vR 77, vI c, vI r, vI p]) := by
  have h7 := J_7 h
  have hrk := J_rwk h
  have u60 : s 83 5 ≤ 6 := h7.2.2.1
  by_cases hb : 0 ≤ c ∧ c < 4 ∧ 0 ≤ r ∧ r < 6 ∧ 0 ≤ p ∧ p ≤ 12
  · obtain ⟨c0, c4_, r0, r6, p0, p12⟩ := hb
    have hr := Jr_b (r := r) h r0 r6
    have ref : ∀ v1 s1, qTr s r 6 v1 s1 → ¬ v1 = 0 → Pw X (d + 20) 240 [vR 77, vI c, vI r, vI p] (some (vI v1)) s1 := by
      intro v1 s1 q hv
      rcases q with ⟨q1, _⟩ | ⟨q1, q2, q3⟩ | ⟨q1, q2, _, _, q3⟩ | ⟨q1, _, _, q3, q4⟩
      · exact absurd q1 hv
      · exfalso; omega
      · subst q2 q1
        refine Pw_mk ?_
        apply t_X6_odds <;> intros
        all_goals first | exact rc | exact rr | exact rp | omega | exact ⟨rfl, h⟩
      · have f5 : ∀ f, fnd s f 83 5 = s 83 5 := fun f => fnd_o (by decide) (by decide)
        have f78 : ∀ f j, fnd s f 78 j = s 78 j := fun f j => fnd_o (by decide) (by decide)
        have f79 : ∀ f j, fnd s f 79 j = s 79 j := fun f j => fnd_o (by decide) (by decide)
        subst q1
        rcases q4 with ⟨q4, q5⟩ | ⟨q4, q5, q6⟩ | ⟨q4, q5, q6, q7⟩
        · subst q4
          have z5 := f5 1
          have z8 := f78 1 r
          refine Pw_mk ?_
          apply t_X6_odds <;> intros
          all_goals first | exact rc | exact rr | exact rp | omega | exact ⟨rfl, J_fnd h (by decide) (by decide)⟩
        · subst q4
          have z5 := f5 5
          have z8 := f78 5 r
          refine Pw_mk ?_
          apply t_X6_odds <;> intros
          all_goals first | exact rc | exact rr | exact rp | omega | exact ⟨rfl, J_fnd h (by decide) (by decide)⟩
        · subst q4
          have z5 := f5 3
          have z8 := f78 3 r
          have hrw : rwM (fnd s 3) r := J_rwM h (f78 3) (f79 3) r r0 r6
          have has : asv (fnd s 3) r = 0 := asv_0.mpr (fun z => q7 ((asy_M h r0 r6 (f78 3) (f79 3)).mpr z))
          refine Pw_mk ?_
          apply t_X6_odds <;> intros
          all_goals first | exact rc | exact rr | exact rp | exact hrw | exact absurd has (by assumption) | omega | exact ⟨rfl, J_fnd h (by decide) (by decide)⟩
    by_cases hz : ¬ s 38 7 = -1 ∧ 0 ≤ s 2 r ∧ s 2 r ≤ 6 ∧ asy s r
    · obtain ⟨hu, z0, z6, ha⟩ := hz
      obtain ⟨hup, _⟩ := J_up h hu
      obtain ⟨c1, c2, c3, c4, c5⟩ := cls_ch (p := p) h hu r0 r6 z0 z6 ha p0 p12
      have t2 : tka s 2 r = s 2 r := tka_o (by omega)
      have t4 : ∀ j, tka s (4 + r) j = s (4 + r) j := fun j => tka_o (by omega)
      have hrw := hrk r r0 r6
      generalize hT : brS (hs0 (tka s) r p) = T at c2 c3 c4 c5
      have eB : sm (T 73) 16 = chd s r := by
        have := c5 (fun _ => 1)
        rw [dG_1] at this
        rw [show (fun a => 1 * T 73 a) = T 73 from funext fun a => Int.one_mul _] at this
        exact this
      have eA : cho T c = chv s c r p := cho_chv c5 hr.2.2 c0 c4_
      have hn : 0 ≤ s 78 r ∧ s 78 r ≤ 6 := by omega
      have bA := chv_r (s := s) (r := r) (c := c) (p := p) hn.1 hn.2 (Or.inr ⟨c0, c4_⟩) p0 p12
      have bB := chd_r (s := s) (r := r) hn.1 hn.2
      have bG := gd_r (a := chv s c r p) bB.1
      have hcm := cmpJ_p (a := gd (chv s c r p) (chd s r)) (b := 0) (by omega) (by omega)
      have main : Pw X (d + 20) 240 [vR 77, vI c, vI r, vI p] (some (vI 1)) (m_upd (m_upd T 0 10 (chv s c r p / gd (chv s c r p) (chd s r))) 0 11 (chd s r / gd (chv s c r p) (chd s r))) := by
        generalize hT2 : m_upd (m_upd T 0 10 (chv s c r p / gd (chv s c r p) (chd s r))) 0 11 (chd s r / gd (chv s c r p) (chd s r)) = T2
        have f2 : ∀ x j, ¬ (66 ≤ x ∧ x ≤ 73) → ¬ (x = 0 ∧ 10 ≤ j ∧ j ≤ 11) → T2 x j = s x j := fun x j h1 h2 => by rw [← hT2, upd_o2 (by omega), upd_o2 (by omega), c2 x j h1]
        have e83 : T2 83 = s 83 := funext fun q => f2 83 q (by omega) (by omega)
        have e38 : T2 38 5 = s 38 5 := f2 _ _ (by omega) (by omega)
        have e78 : ∀ j, T2 78 j = s 78 j := fun j => f2 _ _ (by omega) (by omega)
        have e79 : ∀ j, T2 79 j = s 79 j := fun j => f2 _ _ (by omega) (by omega)
        have x5 : T2 83 5 = s 83 5 := by rw [e83]
        have x8 := e78 r
        have hrwM : rwM T2 r := J_rwM h e78 e79 r r0 r6
        have has : asM T2 r := (asy_M h r0 r6 e78 e79).mp ha
        have hasv : ¬ asv T2 r = 0 := fun z => asv_0.mp z has
        have huk := (J_up h hu).2.1
        have hbb : bbk T2 r := ⟨⟨⟨by rw [e83]; exact huk.1.1, by rw [e83, e38]; exact huk.1.2⟩, by rw [e83]; exact huk.2⟩, by omega, by omega, has⟩
        have fin : ∀ v s', qCh T2 c r p v s' → some (vI v) = some (vI 1) ∧ J s' := by
          intro v s' ⟨hv, s0, hf, hs'⟩
          refine ⟨by rw [hv], ?_⟩
          have ev : chv T2 c r p = chv s c r p := chv_fr e83 e38 x8 e79
          have ed : chd T2 r = chd s r := by unfold chd; rw [x8]
          rw [ev, ed] at hs'
          subst hs'
          have hj := h.2.2.1
          refine J_told3 h (fun x j h1 h2 h3 h4 h5 h6 => ?_) (tkok_cong (fun x j x0 x1 => ?_) c3) (fun i => ?_) ?_ ?_ ?_
          · rw [upd_o2 (by omega), upd_o2 (by omega), hf x j (by omega) (by omega), f2 x j (by omega) (by omega)]
          · rw [upd_o2 (by omega), upd_o2 (by omega), hf x j (by omega) (by omega), ← hT2, upd_o2 (by omega), upd_o2 (by omega)]
          · rw [upd_o2 (by omega), upd_o2 (by omega), hf 72 i (by omega) (by omega), ← hT2, upd_o2 (by omega), upd_o2 (by omega)]
            exact c4 i
          · rw [upd_o2 (by omega), upd_o2 (by omega), hf 77 11 (by omega) (by omega), f2 77 11 (by omega) (by omega), upd_o2 (by omega), upd_o2 (by omega), hf 0 9 (by omega) (by omega), f2 0 9 (by omega) (by omega)]
            exact hj.2.1
          · rw [upd_o2 (by omega), upd_eq, upd_o2 (by omega), upd_o2 (by omega), hf 0 10 (by omega) (by omega), ← hT2, upd_o2 (by omega), upd_eq]
          · rw [upd_eq, upd_o2 (by omega), upd_o2 (by omega), hf 0 11 (by omega) (by omega), ← hT2, upd_eq]
        refine Pw_mk ?_
        clear c5 eA eB
        apply t_X6_odds <;> intros
        all_goals first | exact rc | exact rr | exact rp | exact hrwM | exact hbb | exact absurd (by assumption) hasv | (exact fin _ _ (by assumption)) | omega
      generalize chv s c r p = CV at eA bA bG hcm main
      generalize chd s r = CD at eB bB bG hcm main
      have pk : ∀ v12 s12, qTr s r 6 v12 s12 → v12 = 0 → s12 = s := fun v12 s12 q hv => (qTr_0 q hv).1
      apply t_X5_odds <;> intros
      all_goals first | exact rc | exact rr | exact rp | exact hrk _ (by assumption) (by assumption) | omega | (next v1 s1 q => exact qTr_inR q) | (next v1 s1 q hv => exact ref v1 s1 q hv) | skip
      all_goals first | (next v1 s1 q hv => (rw [pk v1 s1 q hv]; first | exact hup | exact c1 | (rw [t2]; omega) | (rw [hT, eA]; omega) | (rw [hT, eB]; omega))) | (next v1 s1 q hv j j0 j1 => (rw [pk v1 s1 q hv] at j1 ⊢; rw [t4]; rw [t2] at j1; exact hrw.2.2 j j0 j1)) | skip
      all_goals (next v1 s1 q hv hg =>
        have es := pk v1 s1 q hv
        subst es
        rw [hT] at hg ⊢
        rw [eA, eB] at hg
        (try rw [eA])
        (try rw [eB])
        first | omega | exact main)
    · have noz : ∀ v1 s1, qTr s r 6 v1 s1 → ¬ v1 = 0 := fun v1 s1 q hv => by
        obtain ⟨_, _, _, g1, g2, g3, g4⟩ := qTr_0 q hv
        exact hz ⟨g1, g2, g3, g4⟩
      apply t_X5_odds <;> intros
      all_goals first | exact rc | exact rr | exact rp | exact hrk _ (by assumption) (by assumption) | omega | (next v1 s1 q => exact qTr_inR q) | (next v1 s1 q hv => exact ref v1 s1 q hv) | (exact absurd (by assumption) (noz _ _ (by assumption)))
  · have bad : Pw X (d + 20) 240 [vR 77, vI c, vI r, vI p] (some (vI (-1))) s := by
      refine Pw_mk ?_
      apply t_X6_odds <;> intros
      all_goals first | exact rc | exact rr | exact rp | omega | exact ⟨rfl, h⟩
    apply t_X5_odds <;> intros
    all_goals first | exact rc | exact rr | exact rp | exact bad | omega
set_option maxHeartbeats 4000000 in
theorem op_mid (h : J s) (rr : inR r) (rp : inR p) : Cl X (d + 20) 142 [vR 0, vI r, vI p] s (Pw X (d + 20) 245 [vR 77, vI r, vI p]) := by
  have h7 := J_7 h
  have hrk := J_rwk h
  have u60 : s 83 5 ≤ 6 := h7.2.2.1
  by_cases hb : 0 ≤ r ∧ r < 6 ∧ 0 ≤ p ∧ p ≤ 12
  · obtain ⟨r0, r6, p0, p12⟩ := hb
    have hr := Jr_b (r := r) h r0 r6
    have ref : ∀ v1 s1, qTr s r 6 v1 s1 → ¬ v1 = 0 → Pw X (d + 20) 245 [vR 77, vI r, vI p] (some (vI v1)) s1 := by
      intro v1 s1 q hv
      rcases q with ⟨q1, _⟩ | ⟨q1, q2, q3⟩ | ⟨q1, q2, _, _, q3⟩ | ⟨q1, _, _, q3, q4⟩
      · exact absurd q1 hv
      · exfalso; omega
      · subst q2 q1
        refine Pw_mk ?_
        apply t_X6_mid <;> intros
        all_goals first | exact rr | exact rp | omega | exact ⟨rfl, h⟩
      · have f5 : ∀ f, fnd s f 83 5 = s 83 5 := fun f => fnd_o (by decide) (by decide)
        have f78 : ∀ f j, fnd s f 78 j = s 78 j := fun f j => fnd_o (by decide) (by decide)
        have f79 : ∀ f j, fnd s f 79 j = s 79 j := fun f j => fnd_o (by decide) (by decide)
        subst q1
        rcases q4 with ⟨q4, q5⟩ | ⟨q4, q5, q6⟩ | ⟨q4, q5, q6, q7⟩
        · subst q4
          have z5 := f5 1
          have z8 := f78 1 r
          refine Pw_mk ?_
          apply t_X6_mid <;> intros
          all_goals first | exact rr | exact rp | omega | exact ⟨rfl, J_fnd h (by decide) (by decide)⟩
        · subst q4
          have z5 := f5 5
          have z8 := f78 5 r
          refine Pw_mk ?_
          apply t_X6_mid <;> intros
          all_goals first | exact rr | exact rp | omega | exact ⟨rfl, J_fnd h (by decide) (by decide)⟩
        · subst q4
          have z5 := f5 3
          have z8 := f78 3 r
          have hrw : rwM (fnd s 3) r := J_rwM h (f78 3) (f79 3) r r0 r6
          have has : asv (fnd s 3) r = 0 := asv_0.mpr (fun z => q7 ((asy_M h r0 r6 (f78 3) (f79 3)).mpr z))
          refine Pw_mk ?_
          apply t_X6_mid <;> intros
          all_goals first | exact rr | exact rp | exact hrw | exact absurd has (by assumption) | omega | exact ⟨rfl, J_fnd h (by decide) (by decide)⟩
    by_cases hz : ¬ s 38 7 = -1 ∧ 0 ≤ s 2 r ∧ s 2 r ≤ 6 ∧ asy s r
    · obtain ⟨hu, z0, z6, ha⟩ := hz
      obtain ⟨hup, _⟩ := J_up h hu
      obtain ⟨c1, c2, c3, c4, c5⟩ := cls_ch (p := p) h hu r0 r6 z0 z6 ha p0 p12
      have t2 : tka s 2 r = s 2 r := tka_o (by omega)
      have t4 : ∀ j, tka s (4 + r) j = s (4 + r) j := fun j => tka_o (by omega)
      have hrw := hrk r r0 r6
      generalize hT : brS (hs0 (tka s) r p) = T at c2 c3 c4 c5
      have eB : sm (T 73) 16 = chd s r := by
        have := c5 (fun _ => 1)
        rw [dG_1] at this
        rw [show (fun a => 1 * T 73 a) = T 73 from funext fun a => Int.one_mul _] at this
        exact this
      have eA : ((cho T 0 + cho T 1) + cho T 2) + cho T 3 = chv s (-9) r p := cho4_chv c5
      have hn : 0 ≤ s 78 r ∧ s 78 r ≤ 6 := by omega
      have bA := chv_r (s := s) (r := r) (c := (-9)) (p := p) hn.1 hn.2 (Or.inl rfl) p0 p12
      have bB := chd_r (s := s) (r := r) hn.1 hn.2
      have bG := gd_r (a := chv s (-9) r p) bB.1
      have hcm := cmpJ_p (a := gd (chv s (-9) r p) (chd s r)) (b := 0) (by omega) (by omega)
      have main : Pw X (d + 20) 245 [vR 77, vI r, vI p] (some (vI 1)) (m_upd (m_upd T 0 10 (chv s (-9) r p / gd (chv s (-9) r p) (chd s r))) 0 11 (chd s r / gd (chv s (-9) r p) (chd s r))) := by
        generalize hT2 : m_upd (m_upd T 0 10 (chv s (-9) r p / gd (chv s (-9) r p) (chd s r))) 0 11 (chd s r / gd (chv s (-9) r p) (chd s r)) = T2
        have f2 : ∀ x j, ¬ (66 ≤ x ∧ x ≤ 73) → ¬ (x = 0 ∧ 10 ≤ j ∧ j ≤ 11) → T2 x j = s x j := fun x j h1 h2 => by rw [← hT2, upd_o2 (by omega), upd_o2 (by omega), c2 x j h1]
        have e83 : T2 83 = s 83 := funext fun q => f2 83 q (by omega) (by omega)
        have e38 : T2 38 5 = s 38 5 := f2 _ _ (by omega) (by omega)
        have e78 : ∀ j, T2 78 j = s 78 j := fun j => f2 _ _ (by omega) (by omega)
        have e79 : ∀ j, T2 79 j = s 79 j := fun j => f2 _ _ (by omega) (by omega)
        have x5 : T2 83 5 = s 83 5 := by rw [e83]
        have x8 := e78 r
        have hrwM : rwM T2 r := J_rwM h e78 e79 r r0 r6
        have has : asM T2 r := (asy_M h r0 r6 e78 e79).mp ha
        have hasv : ¬ asv T2 r = 0 := fun z => asv_0.mp z has
        have huk := (J_up h hu).2.1
        have hbb : bbk T2 r := ⟨⟨⟨by rw [e83]; exact huk.1.1, by rw [e83, e38]; exact huk.1.2⟩, by rw [e83]; exact huk.2⟩, by omega, by omega, has⟩
        have fin : ∀ v s', qCh T2 (-9) r p v s' → some (vI v) = some (vI 1) ∧ J s' := by
          intro v s' ⟨hv, s0, hf, hs'⟩
          refine ⟨by rw [hv], ?_⟩
          have ev : chv T2 (-9) r p = chv s (-9) r p := chv_fr e83 e38 x8 e79
          have ed : chd T2 r = chd s r := by unfold chd; rw [x8]
          rw [ev, ed] at hs'
          subst hs'
          have hj := h.2.2.1
          refine J_told3 h (fun x j h1 h2 h3 h4 h5 h6 => ?_) (tkok_cong (fun x j x0 x1 => ?_) c3) (fun i => ?_) ?_ ?_ ?_
          · rw [upd_o2 (by omega), upd_o2 (by omega), hf x j (by omega) (by omega), f2 x j (by omega) (by omega)]
          · rw [upd_o2 (by omega), upd_o2 (by omega), hf x j (by omega) (by omega), ← hT2, upd_o2 (by omega), upd_o2 (by omega)]
          · rw [upd_o2 (by omega), upd_o2 (by omega), hf 72 i (by omega) (by omega), ← hT2, upd_o2 (by omega), upd_o2 (by omega)]
            exact c4 i
          · rw [upd_o2 (by omega), upd_o2 (by omega), hf 77 11 (by omega) (by omega), f2 77 11 (by omega) (by omega), upd_o2 (by omega), upd_o2 (by omega), hf 0 9 (by omega) (by omega), f2 0 9 (by omega) (by omega)]
            exact hj.2.1
          · rw [upd_o2 (by omega), upd_eq, upd_o2 (by omega), upd_o2 (by omega), hf 0 10 (by omega) (by omega), ← hT2, upd_o2 (by omega), upd_eq]
          · rw [upd_eq, upd_o2 (by omega), upd_o2 (by omega), hf 0 11 (by omega) (by omega), ← hT2, upd_eq]
        refine Pw_mk ?_
        clear c5 eA eB
        apply t_X6_mid <;> intros
        all_goals first | exact rr | exact rp | exact hrwM | exact hbb | exact absurd (by assumption) hasv | (exact fin _ _ (by assumption)) | omega
      generalize chv s (-9) r p = CV at eA bA bG hcm main
      generalize chd s r = CD at eB bB bG hcm main
      have pk : ∀ v12 s12, qTr s r 6 v12 s12 → v12 = 0 → s12 = s := fun v12 s12 q hv => (qTr_0 q hv).1
      apply t_X5_mid <;> intros
      all_goals first | exact rr | exact rp | exact hrk _ (by assumption) (by assumption) | omega | (next v1 s1 q => exact qTr_inR q) | (next v1 s1 q hv => exact ref v1 s1 q hv) | skip
      all_goals first | (next v1 s1 q hv => (rw [pk v1 s1 q hv]; first | exact hup | exact c1 | (rw [t2]; omega) | (rw [hT, eA]; omega) | (rw [hT, eB]; omega))) | (next v1 s1 q hv j j0 j1 => (rw [pk v1 s1 q hv] at j1 ⊢; rw [t4]; rw [t2] at j1; exact hrw.2.2 j j0 j1)) | skip
      all_goals (next v1 s1 q hv hg =>
        have es := pk v1 s1 q hv
        subst es
        rw [hT] at hg ⊢
        rw [eA, eB] at hg
        (try rw [eA])
        (try rw [eB])
        first | omega | exact main)
    · have noz : ∀ v1 s1, qTr s r 6 v1 s1 → ¬ v1 = 0 := fun v1 s1 q hv => by
        obtain ⟨_, _, _, g1, g2, g3, g4⟩ := qTr_0 q hv
        exact hz ⟨g1, g2, g3, g4⟩
      apply t_X5_mid <;> intros
      all_goals first | exact rr | exact rp | exact hrk _ (by assumption) (by assumption) | omega | (next v1 s1 q => exact qTr_inR q) | (next v1 s1 q hv => exact ref v1 s1 q hv) | (exact absurd (by assumption) (noz _ _ (by assumption)))
  · have bad : Pw X (d + 20) 245 [vR 77, vI r, vI p] (some (vI (-1))) s := by
      refine Pw_mk ?_
      apply t_X6_mid <;> intros
      all_goals first | exact rr | exact rp | omega | exact ⟨rfl, h⟩
    apply t_X5_mid <;> intros
    all_goals first | exact rr | exact rp | exact bad | omega
end OPZA
