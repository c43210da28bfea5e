theorem J_scr {s t : m_St} (h : J s) (e : ∀ c j, ¬ (66 ≤ c ∧ c ≤ 75) → ¬ c = 80 → ¬ c = 84 → ¬ (88 ≤ c ∧ c ≤ 91) → ¬ (c = 77 ∧ 14 ≤ j) → t c j = s c j) (ht : tkok t) (h72 : ∀ i, inR (t 72 i)) : J t := by
  obtain ⟨a1, a2, a3, a4, a5, a6⟩ := h
  refine ⟨?_, ?_, ?_, ?_, ?_, ?_⟩
  · exact Jr_cong (fun c j hc => by unfold uR at hc; exact e c j (by omega) (by omega) (by omega) (by omega) (by omega)) a1
  · exact Jt_cong (fun c j hc => by unfold uT at hc; exact e c j (by omega) (by omega) (by omega) (by omega) (by omega)) a2
  · exact Jf_cong (fun c j hc => by unfold uF at hc; exact e c j (by omega) (by omega) (by omega) (by omega) (by omega)) a3
  · exact Jh_cong (fun c j hc => by unfold uH at hc; exact e c j (by omega) (by omega) (by omega) (by omega) (by omega)) a4
  · exact Jk_cong (fun c j hc => by unfold uK uB at hc; exact e c j (by omega) (by omega) (by omega) (by omega) (by omega)) a4.1 a5
  · exact ⟨fun i i0 i6 => gok_cong (fun j => e _ _ (by omega) (by omega) (by omega) (by omega) (by omega)) (fun j => e _ _ (by omega) (by omega) (by omega) (by omega) (by omega)) (a6.1 i i0 i6), ht, h72⟩
theorem J_up {s : m_St} (h : J s) (hu : ¬ s 38 7 = -1) : upk s ∧ uok s ∧ s 38 7 = s 83 5 - 1 ∧ s 38 8 = s 83 6 - 1 ∧ s 38 7 < s 83 0 ∧ s 38 8 < s 83 0 := by
  obtain ⟨v1, v2⟩ := h.v
  obtain ⟨a1, a2, a3, a4, a5, a6, a7, a8, a9, a10, a11, a12⟩ := v2.1
  obtain ⟨b1, b2, b3, b4, b5, b6, b7⟩ := v1
  refine ⟨⟨by omega, by omega, by omega, by omega, b6⟩, ⟨v2, by omega⟩, b4, b5, by omega, by omega⟩
theorem J_7 {s : m_St} (h : J s) : s 38 7 = s 83 5 - 1 ∧ 0 ≤ s 83 5 ∧ s 83 5 ≤ 6 ∧ s 38 3 = s 83 0 ∧ 0 ≤ s 83 0 ∧ s 83 0 ≤ 6 := by
  obtain ⟨v1, v2⟩ := h.v
  obtain ⟨a1, a2, a3, a4, a5, a6, a7, a8, a9, a10, a11, a12⟩ := v2.1
  obtain ⟨b1, b2, b3, b4, b5, b6, b7⟩ := v1
  exact ⟨b4, a7, by omega, b1, a1, a2⟩
theorem btw_o {s : m_St} {g o a c j : Int} (h : ¬ (66 ≤ c ∧ c ≤ 70)) : btw s g o a c j = s c j := by
  unfold btw
  rw [upd_nc (by omega), lk_o (by omega) (by omega), lk_o (by omega) (by omega)]
theorem btw_67 {s : m_St} {g o a : Int} (h : gok s g) : btw s g o a 67 1 = s g 1 ∧ btw s g o a 67 2 = s g 2 ∧ ∀ c, 0 ≤ c → c < 4 → btw s g o a 68 c = s (g + 1) c := by
  unfold btw
  refine ⟨?_, ?_, fun c c0 c1 => ?_⟩
  · rw [upd_nc (by decide), lk_o (by decide) (by decide), lk_1]
  · rw [upd_nc (by decide), lk_o (by decide) (by decide), h.2.2.1]
    unfold lk
    rw [if_neg (by omega), if_neg (by omega), if_pos (by omega)]
  · rw [upd_nc (by decide), lk_o (by decide) (by decide)]
    exact lk_w (g := 67) c0 c1
theorem btw_69 {s : m_St} {g o a : Int} (h : gok s o) (o6 : o < 66) : btw s g o a 69 1 = s o 1 ∧ btw s g o a 69 2 = s o 2 ∧ ∀ c, 0 ≤ c → c < 4 → btw s g o a 70 c = s (o + 1) c := by
  unfold btw
  refine ⟨?_, ?_, fun c c0 c1 => ?_⟩
  · rw [upd_nc (by decide), lk_1]
  · rw [upd_nc (by decide), h.2.2.1]
    unfold lk
    rw [if_neg (by omega), if_neg (by omega), if_pos (by omega)]
    exact hset_cong fun c c0 c1 => by rw [if_neg (by omega), if_neg (by omega), if_neg (by omega)]
  · rw [upd_nc (by decide)]
    have := lk_w (s := lk s 67 g (s g 1)) (g := 69) (o := o) (k := s o 1) c0 c1
    rw [show (70 : Int) = 69 + 1 by decide, this, lk_o (by omega) (by omega)]
theorem btw_tkok {s : m_St} {g o a : Int} (h : gok s g) (ho : gok s o) (o6 : o < 66) : tkok (btw s g o a) := by
  obtain ⟨a1, a2, a3⟩ := btw_67 (o := o) (a := a) h
  obtain ⟨b1, b2, b3⟩ := btw_69 (g := g) (a := a) ho o6
  refine ⟨⟨by rw [a1]; exact h.1, by rw [a1]; exact h.2.1, ?_, fun c c0 c1 => ?_⟩, ⟨by rw [b1]; exact ho.1, by rw [b1]; exact ho.2.1, ?_, fun c c0 c1 => ?_⟩⟩
  · rw [a1, a2, h.2.2.1]
    exact hset_cong fun c c0 c1 => (a3 c c0 c1).symm
  · rw [show (67 : Int) + 1 = 68 by decide, a3 c c0 c1]
    exact h.2.2.2 c c0 c1
  · rw [b1, b2, ho.2.2.1]
    exact hset_cong fun c c0 c1 => (b3 c c0 c1).symm
  · rw [show (69 : Int) + 1 = 70 by decide, b3 c c0 c1]
    exact ho.2.2.2 c c0 c1
theorem J_btw {s : m_St} {g o a : Int} (h : J s) (hg : gok s g) (ho : gok s o) (o6 : o < 66) : J (btw s g o a) :=
  J_scr h (fun c j h1 _ _ _ _ => btw_o (by omega)) (btw_tkok hg ho o6) (fun i => by rw [btw_o (by omega)]; exact h.2.2.2.2.2.2.2 i)
theorem J_tka {s : m_St} (h : J s) (hu : ¬ s 38 7 = -1) : J (tka s) ∧ tka s 67 2 = hld (s 83) (s 83 5 - 1) ∧ tka s 69 2 = hld (s 83) (s 83 6 - 1) := by
  obtain ⟨⟨u0, u6, v0, v6, hg⟩, hk, e7, e8, l7, l8⟩ := J_up h hu
  have g1 := hg _ u0 u6
  have g2 := hg _ v0 v6
  refine ⟨J_btw h g1 g2 (by omega), ?_, ?_⟩
  · show btw s _ _ _ 67 2 = _
    rw [(btw_67 g1).2.1, h.v.h u0 l7, e7]
  · show btw s _ _ _ 69 2 = _
    rw [(btw_69 g2 (by omega)).2.1, h.v.h v0 l8, e8]
theorem tka_o {s : m_St} {c j : Int} (h : ¬ (66 ≤ c ∧ c ≤ 70)) : tka s c j = s c j := btw_o h
section OPE
variable {X : List Int32} {d : Nat} {s : m_St} {i k w c z : Int}
theorem op_follows (h : J s) (rz : inR z) : Cl X (d + 20) 75 [vR 0, vI z] s (Pw X (d + 20) 195 [vR 77, vI z]) := by
  apply t_X5_follows <;> intros
  all_goals first | exact rz | omega | skip
  all_goals refine Pw_mk ?_
  all_goals (apply t_X6_follows <;> intros)
  all_goals first | exact rz | omega | exact ⟨rfl, h⟩ | exact h.v.2.2 | exact ⟨by omega, by omega⟩
theorem op_both (h : J s) : Cl X (d + 20) 97 [vR 0] s (Pw X (d + 20) 215 [vR 77]) := by
  have h7 := J_7 h
  apply t_X5_both <;> intros
  all_goals first | omega | exact (J_up h (by assumption)).1 | skip
  · refine Pw_mk ?_
    apply t_X6_both <;> intros
    all_goals first | omega | exact ⟨rfl, h⟩
  · next hu =>
    obtain ⟨j1, e1, e2⟩ := J_tka h hu
    have e5 : m_upd (tka s) 0 9 (iXor ((tka s) 67 2) ((tka s) 69 2)) 83 5 = s 83 5 := by rw [upd_nc (by decide), tka_o (by decide)]
    have e83 : m_upd (tka s) 0 9 (iXor ((tka s) 67 2) ((tka s) 69 2)) 83 = s 83 := by rw [upd_fun (by decide)]; exact funext fun j => tka_o (by decide)
    have hj : J (m_upd (m_upd (tka s) 0 9 (iXor ((tka s) 67 2) ((tka s) 69 2))) 77 11 (iXor ((tka s) 67 2) ((tka s) 69 2))) := J_tell j1 rfl
    have e38 : m_upd (tka s) 0 9 (iXor ((tka s) 67 2) ((tka s) 69 2)) 38 5 = s 38 5 := by rw [upd_nc (by decide), tka_o (by decide)]
    have hk : uok (m_upd (tka s) 0 9 (iXor ((tka s) 67 2) ((tka s) 69 2))) := by
      unfold uok mok
      rw [e83, e38]
      exact (J_up h hu).2.1
    refine Pw_mk ?_
    apply t_X6_both <;> intros
    all_goals first | omega | exact hk | skip
    rw [e83, show (5 : Int) + 0 = 5 by decide, ← e1, show (5 : Int) + 1 = 6 by decide, ← e2]
    exact ⟨rfl, hj⟩
theorem op_can (h : J s) : Cl X (d + 20) 104 [vR 0] s (Pw X (d + 20) 216 [vR 77]) := by
  have h7 := J_7 h
  apply t_X5_can <;> intros
  all_goals first | omega | exact (J_up h (by assumption)).1 | skip
  · refine Pw_mk ?_
    apply t_X6_can <;> intros
    all_goals first | omega | exact ⟨rfl, h⟩
  · next hu =>
    obtain ⟨j1, e1, e2⟩ := J_tka h hu
    have e5 : tka s 83 5 = s 83 5 := tka_o (by decide)
    have e83 : tka s 83 = s 83 := funext fun j => tka_o (by decide)
    have e38 : tka s 38 5 = s 38 5 := tka_o (by decide)
    have hk : uok (tka s) := by
      unfold uok mok
      rw [e83, e38]
      exact (J_up h hu).2.1
    refine Pw_mk ?_
    apply t_X6_can <;> intros
    all_goals first | omega | exact hk | skip
    rw [e83, show (5 : Int) + 0 = 5 by decide, ← e1, show (5 : Int) + 1 = 6 by decide, ← e2]
    exact ⟨rfl, j1⟩
theorem op_moved (h : J s) (ri : inR i) (rc : inR c) : Cl X (d + 20) 78 [vR 0, vI i, vI c] s (Pw X (d + 20) 197 [vR 77, vI i, vI c]) := by
  have h7 := J_7 h
  have hv := h.v
  have hg : ∀ i, 0 ≤ i → i < 6 → gok s (44 + 4 * i) := hv.1.2.2.2.2.2.1
  apply t_X5_moved <;> intros
  all_goals first | exact ri | exact rc | omega | exact (hg _ (by omega) (by omega)).1 | exact (hg _ (by omega) (by omega)).2.1 | skip
  all_goals refine Pw_mk ?_
  all_goals (apply t_X6_moved <;> intros)
  all_goals first | exact ri | exact rc | omega | exact hv.2 | exact ⟨rfl, h⟩ | skip
  rw [hv.h (by omega) (by omega), (hv.1.2.2.2.2.2.2 i (by omega) (by omega)).1]
  exact ⟨rfl, h⟩
theorem op_guest (h : J s) (ri : inR i) (rw_ : inR w) : Cl X (d + 20) 65 [vR 0, vI i, vI w] s (Pw X (d + 20) 183 [vR 77, vI i, vI w]) := by
  have h7 := J_7 h
  have hv := h.v
  have u5 : ∀ x, m_upd s 0 9 x 83 = s 83 := fun x => upd_fun (by decide)
  have u38 : ∀ x, m_upd s 0 9 x 38 = s 38 := fun x => upd_fun (by decide)
  have um : ∀ x, mok (m_upd s 0 9 x) := fun x => by unfold mok; rw [u5, u38]; exact hv.2
  have h8 : s 38 8 = s 83 6 - 1 := hv.1.2.2.2.2.1
  have h6 : 0 ≤ s 83 6 ∧ s 83 6 ≤ s 83 0 := by
    obtain ⟨a1, a2, a3, a4, a5, a6, a7, a8, a9, a10, a11, a12⟩ := hv.2.1
    exact ⟨a9, a10⟩
  apply t_X5_guest <;> intros
  all_goals first | exact ri | exact rw_ | omega | skip
  all_goals refine Pw_mk ?_
  all_goals (apply t_X6_guest <;> intros)
  all_goals (try rw [u5] at *)
  all_goals first | exact ri | exact rw_ | omega | exact um _ | exact ⟨rfl, h⟩ | exact ⟨rfl, J_tell h rfl⟩ | skip
  · refine ⟨rfl, J_tell h ?_⟩
    rw [show 8 + 5 * i + w = 8 + 5 * i by omega]
    exact ((hv.1.2.2.2.2.2.2 i (by omega) (by omega)).1).symm
  · exact ⟨rfl, J_tell h (hv.h (by omega) (by omega)).symm⟩
  · refine ⟨rfl, J_tell h ?_⟩
    rw [show 8 + 5 * i + w = 9 + 5 * i + (w - 1) by omega]
    exact ((hv.1.2.2.2.2.2.2 i (by omega) (by omega)).2 (w - 1) (by omega) (by omega)).symm
theorem mk_1 {h : Int → Int} {g R : Int} (hk : s g 1 = h (8 + 5 * i)) (hh : s g 2 = hld h i) : sm (mkw h R i 1) 4 = unm s g R := by
  rw [sm_4]
  unfold unm mkw
  rw [hk, hh]
  simp only [if_pos]
theorem mk_2 {h : Int → Int} {g R : Int} (hk : s g 1 = h (8 + 5 * i)) (hh : s g 2 = hld h i) : sm (mkw h R i 2) 4 = hsm s g R := by
  rw [sm_4]
  unfold hsm mkw
  rw [hk, hh]
  simp only [if_pos, if_neg (show ¬ (2 : Int) = 1 by decide)]
theorem mk_3 {h : Int → Int} {R : Int} : sm (mkw h R i 3) 4 = 4 - bc (hld h i) := by
  have hr : 0 ≤ hld h i ∧ hld h i < 16 := hset_r _ _
  rw [sm_4, bc_b hr.1 hr.2]
  have e : ∀ c : Nat, c < 4 → mkw h R i 3 c = 1 - b01 (bt (hld h i) c) := fun c hc => by
    unfold mkw
    rw [if_neg (by decide), if_neg (by decide), if_pos rfl, bit_of (by omega) (by omega), Int.toNat_natCast]
    cases bt (hld h i) c <;> rfl
  have e0 := e 0 (by decide)
  have e1 := e 1 (by decide)
  have e2 := e 2 (by decide)
  have e3 := e 3 (by decide)
  simp only [Int.natCast_zero, Int.natCast_one, Int.cast_ofNat_Int] at e0 e1 e2 e3
  rw [e0, e1, e2, e3]
  show _ = 4 - (b01 (bt (hld h i) 0) + b01 (bt (hld h i) 1) + b01 (bt (hld h i) 2) + b01 (bt (hld h i) 3))
  omega
theorem mkw_4 {h : Int → Int} {R c : Int} : mkw h R i 4 c = if 5 ≤ h (9 + 5 * i + c) ∧ h (9 + 5 * i + c) ≤ 6 then 1 else 0 := by
  unfold mkw
  rw [if_neg (show ¬ (4 : Int) = 1 by decide), if_neg (show ¬ (4 : Int) = 2 by decide), if_neg (show ¬ (4 : Int) = 3 by decide), if_pos rfl]
theorem mkw_5 {h : Int → Int} {R c : Int} : mkw h R i 5 c = if 3 ≤ h (9 + 5 * i + c) ∧ h (9 + 5 * i + c) ≤ 4 then 1 else 0 := by
  unfold mkw
  rw [if_neg (show ¬ (5 : Int) = 1 by decide), if_neg (show ¬ (5 : Int) = 2 by decide), if_neg (show ¬ (5 : Int) = 3 by decide), if_neg (show ¬ (5 : Int) = 4 by decide)]
theorem bc_diff {f : Int → Int} {t u : Int} : bc (iAnd (hset f t) (iXor (hset f u) (-1))) = sm (fun c => if t ≤ f c ∧ f c < u then 1 else 0) 4 := by
  have hr := anx_r (hset_r f t).1 (hset_r f t).2 (hset_r f u).1 (hset_r f u).2
  rw [bc_b hr.1 hr.2, sm_4]
  have e : ∀ c : Nat, c < 4 → b01 (bt (iAnd (hset f t) (iXor (hset f u) (-1))) c) = if t ≤ f c ∧ f c < u then 1 else 0 := fun c hc => by
    rw [bt_and, bt_xor, hset_bt hc, hset_bt hc, bt_m1 ⟨c, by omega⟩]
    by_cases h1 : t ≤ f c
    · by_cases h2 : u ≤ f c
      · rw [decide_eq_true h1, decide_eq_true h2, if_neg (by omega)]; rfl
      · rw [decide_eq_true h1, decide_eq_false h2, if_pos (by omega)]; rfl
    · rw [decide_eq_false h1, if_neg (by omega)]; rfl
  rw [e 0 (by decide), e 1 (by decide), e 2 (by decide), e 3 (by decide)]
  rfl
theorem op_mark (h : J s) (ri : inR i) (rk : inR k) : Cl X (d + 20) 69 [vR 0, vI i, vI k] s (Pw X (d + 20) 190 [vR 77, vI i, vI k]) := by
  have h7 := J_7 h
  have hv := h.v
  have hg : ∀ i, 0 ≤ i → i < 6 → gok s (44 + 4 * i) := hv.1.2.2.2.2.2.1
  by_cases hb : 0 ≤ i ∧ i < s 83 0
  · obtain ⟨i0, i1⟩ := hb
    have g := hg i i0 (by omega)
    obtain ⟨g1, g2, g3, g4⟩ := g
    have hr := hset_r (s (44 + 4 * i + 1)) (hf (s (44 + 4 * i) 1))
    rw [← g3] at hr
    have ek := (hv.1.2.2.2.2.2.2 i i0 i1).1
    have ew := (hv.1.2.2.2.2.2.2 i i0 i1).2
    have eh := hv.h i0 i1
    have hma : ma (s (44 + 4 * i) 1) = if s (44 + 4 * i) 1 = 1 ∨ s (44 + 4 * i) 1 = 4 then 1 else if s (44 + 4 * i) 1 = 2 ∨ s (44 + 4 * i) 1 = 5 then 2 else if s (44 + 4 * i) 1 = 3 then 3 else 0 := rfl
    have fM : ∀ v, (v = sm (mkw (s 83) (s 38 5) i k) 4) → 1 ≤ k → k ≤ 5 → (s (44 + 4 * i) 1 = k ∨ ma (s (44 + 4 * i) 1) = k) → Pw X (d + 20) 190 [vR 77, vI i, vI k] (some (vI v)) s := by
      intro v hv2 k1 k5 ho
      refine Pw_mk ?_
      apply t_X6_mark <;> intros
      all_goals first | exact ri | exact rk | omega | (refine sp_markM hv.2 i0 i1 k1 k5 ⟨by rw [hv2], h⟩) | skip
    have fN : 1 ≤ k → k ≤ 5 → ¬ (s (44 + 4 * i) 1 = k) → ¬ ma (s (44 + 4 * i) 1) = k → Pw X (d + 20) 190 [vR 77, vI i, vI k] (some (vI (-3))) (m_upd (m_upd s 0 8 3) 76 3 (s 76 3 + 1)) := by
      intro k1 k5 ho1 ho2
      have e1 : ∀ j, m_upd (m_upd s 0 8 3) 76 3 (s 76 3 + 1) 83 j = s 83 j := fun j => fnd_o (by decide) (by decide)
      have e10 := e1 0
      have e18 := e1 (8 + 5 * i)
      refine Pw_mk ?_
      apply t_X6_mark <;> intros
      all_goals first | exact ri | exact rk | omega | exact ⟨rfl, J_fnd h (by decide) (by decide)⟩
    have r1 : hset (s (44 + 4 * i + 1)) (hf 1) = hset (s (44 + 4 * i + 1)) 5 := rfl
    have r2 : hset (s (44 + 4 * i + 1)) (hf 2) = hset (s (44 + 4 * i + 1)) 5 := rfl
    have hz1 := anx_r (hset_r (s (44 + 4 * i + 1)) (hf 1)).1 (hset_r (s (44 + 4 * i + 1)) (hf 1)).2 hr.1 hr.2
    have hz2 := anx_r hr.1 hr.2 (hset_r (s (44 + 4 * i + 1)) (hf 2)).1 (hset_r (s (44 + 4 * i + 1)) (hf 2)).2
    have k4 : k = 4 → (s (44 + 4 * i) 1 = k ∨ ma (s (44 + 4 * i) 1) = k) → s (44 + 4 * i) 1 = 4 := fun _ _ => by omega
    have k5 : k = 5 → (s (44 + 4 * i) 1 = k ∨ ma (s (44 + 4 * i) 1) = k) → s (44 + 4 * i) 1 = 5 := fun _ _ => by omega
    have c1 : k = 1 → unm s (44 + 4 * i) (s 38 5) = sm (mkw (s 83) (s 38 5) i k) 4 := fun z => by subst z; exact (mk_1 ek eh).symm
    have c2 : k = 2 → hsm s (44 + 4 * i) (s 38 5) = sm (mkw (s 83) (s 38 5) i k) 4 := fun z => by subst z; exact (mk_2 ek eh).symm
    have c3 : k = 3 → 4 - bc (s (44 + 4 * i) 2) = sm (mkw (s 83) (s 38 5) i k) 4 := fun z => by subst z; rw [eh]; exact mk_3.symm
    have c4 : k = 4 → s (44 + 4 * i) 1 = 4 → bc (iAnd (hset (s (44 + 4 * i + 1)) (hf 1)) (iXor (s (44 + 4 * i) 2) (-1))) = sm (mkw (s 83) (s 38 5) i k) 4 := fun z z2 => by
      subst z
      rw [g3, z2, show hf 1 = 5 from rfl, show hf 4 = 7 from rfl, bc_diff]
      refine sm_cong fun c hc => ?_
      rw [mkw_4, ← ew c (by omega) (by omega)]
      omega
    have c5 : k = 5 → s (44 + 4 * i) 1 = 5 → bc (iAnd (s (44 + 4 * i) 2) (iXor (hset (s (44 + 4 * i + 1)) (hf 2)) (-1))) = sm (mkw (s 83) (s 38 5) i k) 4 := fun z z2 => by
      subst z
      rw [g3, z2, show hf 2 = 5 from rfl, show hf 5 = 3 from rfl, bc_diff]
      refine sm_cong fun c hc => ?_
      rw [mkw_5, ← ew c (by omega) (by omega)]
      omega
    have q1 : k = 1 → i < 6 → (s (44 + 4 * i) 1 = k ∨ ma (s (44 + 4 * i) 1) = k) → Pw X (d + 20) 190 [vR 77, vI i, vI k] (some (vI (unm s (44 + 4 * i) (s 38 5)))) s := fun hk _ ho => fM _ (c1 hk) (by rw [hk]; decide) (by rw [hk]; decide) ho
    have q2 : k = 2 → i < 6 → (s (44 + 4 * i) 1 = k ∨ ma (s (44 + 4 * i) 1) = k) → Pw X (d + 20) 190 [vR 77, vI i, vI k] (some (vI (hsm s (44 + 4 * i) (s 38 5)))) s := fun hk _ ho => fM _ (c2 hk) (by rw [hk]; decide) (by rw [hk]; decide) ho
    have q3 : k = 3 → i < 6 → (s (44 + 4 * i) 1 = k ∨ ma (s (44 + 4 * i) 1) = k) → Pw X (d + 20) 190 [vR 77, vI i, vI k] (some (vI (4 - bc (s (44 + 4 * i) 2)))) s := fun hk _ ho => fM _ (c3 hk) (by rw [hk]; decide) (by rw [hk]; decide) ho
    have q4 : k = 4 → i < 6 → (s (44 + 4 * i) 1 = k ∨ ma (s (44 + 4 * i) 1) = k) → Pw X (d + 20) 190 [vR 77, vI i, vI k] (some (vI (bc (iAnd (hset (s (44 + 4 * i + 1)) (hf 1)) (iXor (s (44 + 4 * i) 2) (-1)))))) s := fun hk _ ho => fM _ (c4 hk (k4 hk ho)) (by rw [hk]; decide) (by rw [hk]; decide) ho
    have q5 : k = 5 → i < 6 → (s (44 + 4 * i) 1 = k ∨ ma (s (44 + 4 * i) 1) = k) → Pw X (d + 20) 190 [vR 77, vI i, vI k] (some (vI (bc (iAnd (s (44 + 4 * i) 2) (iXor (hset (s (44 + 4 * i + 1)) (hf 2)) (-1)))))) s := fun hk _ ho => fM _ (c5 hk (k5 hk ho)) (by rw [hk]; decide) (by rw [hk]; decide) ho
    clear c1 c2 c3 c4 c5
    apply t_X5_mark <;> intros
    all_goals first | (have hk : k = 1 := (by assumption); refine q1 hk (by assumption) ?_; first | exact Or.inl (by assumption) | exact Or.inr (by assumption)) | skip
    all_goals first | (have hk : k = 2 := (by assumption); refine q2 hk (by assumption) ?_; first | exact Or.inl (by assumption) | exact Or.inr (by assumption)) | skip
    all_goals first | (have hk : k = 3 := (by assumption); refine q3 hk (by assumption) ?_; first | exact Or.inl (by assumption) | exact Or.inr (by assumption)) | skip
    all_goals first | (have hk : k = 4 := (by assumption); refine q4 hk (by assumption) ?_; first | exact Or.inl (by assumption) | exact Or.inr (by assumption)) | skip
    all_goals first | omega | exact g1 | exact g2 | exact (hg i i0 (by omega)).wr | skip
    · refine Pw_mk ?_
      apply t_X6_mark <;> intros
      all_goals first | exact ri | exact rk | omega | exact ⟨rfl, h⟩
    · next o1 o2 =>
      exact q5 (by omega) (by assumption) (Or.inl (by assumption))
    · exact fN (by omega) (by omega) (by assumption) (by assumption)
    · refine Pw_mk ?_
      apply t_X6_mark <;> intros
      all_goals first | exact ri | exact rk | omega | exact ⟨rfl, h⟩
  · apply t_X5_mark <;> intros
    all_goals first | exact ri | exact rk | omega | skip
    all_goals refine Pw_mk ?_
    all_goals (apply t_X6_mark <;> intros)
    all_goals first | exact ri | exact rk | omega | exact ⟨rfl, h⟩ | skip
end OPE
