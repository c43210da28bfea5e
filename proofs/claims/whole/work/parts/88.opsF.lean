/-! calls side by side: reading -/
def trx (x : Int → Int) : Prop := tr (x (-3)) (x 7)
theorem pL_ok {n : Int} {sg : Int → Int} : ∀ (k : Nat) (x : Int → Int), xok n x → trx x → pL n sg k x (-2) = -9 → xok n (pL n sg k x) ∧ trx (pL n sg k x) := by
  intro k
  induction k with
  | zero => exact fun x hx ht _ => ⟨hx, ht⟩
  | succ k ih =>
    intro x hx ht hf
    by_cases hp : x (-2) = -9 ∧ x (-1) < n
    · have e : pL n sg (k + 1) x = pL n sg k (pI n sg x) := by
        show (if x (-2) = -9 ∧ x (-1) < n then pL n sg k (pI n sg x) else x) = _
        rw [if_pos hp]
      rw [e] at hf ⊢
      by_cases hat : at_ n sg (x (-1)) = 102
      · have hpi : pI n sg x = skp n sg (pR n sg x) := by unfold pI; rw [if_pos hat]
        rw [hpi] at hf ⊢
        by_cases hr : fR n sg (x (-1)) = -9
        · refine ih _ (xok_skp (xok_pR hx hr)) ?_ hf
          obtain ⟨g1, g2, g3⟩ := fR_ok hx.1 hr
          unfold trx
          rw [skp_o (by decide), skp_o (by decide)]
          unfold pR
          rw [if_pos hr, setf_o (by decide), setf_e, setf_e]
          exact tr_or ht (by omega) (by omega) (by omega) (by omega) (by omega)
        · exfalso
          have g := (pR_2 (n := n) (sg := sg) (x := x)).2 hr
          have hx2 : skp n sg (pR n sg x) (-2) = fR n sg (x (-1)) := by rw [skp_o (by decide), g]
          rw [pL_out (fun z => hr (by rw [← hx2]; exact z.1)), hx2] at hf
          exact hr hf
      · have hpi : pI n sg x = skp n sg (pG n sg x) := by unfold pI; rw [if_neg hat]
        rw [hpi] at hf ⊢
        by_cases hr : fG n sg (x (-1)) (x 0) = -9
        · refine ih _ (xok_skp (xok_pG hx hr)) ?_ hf
          have h00 := hx.2.2.1
          unfold trx
          rw [skp_o (by decide), skp_o (by decide)]
          unfold pG
          rw [if_pos hr]
          unfold pG1
          rw [if_neg (by decide), if_neg (by decide), if_neg (by omega), if_neg (by omega), if_neg (by decide), if_neg (by decide), if_neg (by omega), if_neg (by omega)]
          exact ht
        · exfalso
          have g := (pG_2 (n := n) (sg := sg) (x := x) hx.2.2.1).2 hr
          have hx2 : skp n sg (pG n sg x) (-2) = fG n sg (x (-1)) (x 0) := by rw [skp_o (by decide), g]
          rw [pL_out (fun z => hr (by rw [← hx2]; exact z.1)), hx2] at hf
          exact hr hf
    · rw [pL_out hp] at hf ⊢
      exact ⟨hx, ht⟩
theorem rdx_ok {n : Int} {sg : Int → Int} (n0 : 0 ≤ n) (hf : rdx n sg (-2) = -9) : xok n (rdx n sg) ∧ trx (rdx n sg) := by
  have hx0 := xok_skp (sg := sg) (x0_ok n0)
  have e0 : ∀ j, 0 ≤ j → x0 j = 0 := fun j j0 => by unfold x0; rw [setf_o (by omega)]
  by_cases hw : fW n sg (skp n sg x0 (-1)) = -9
  · refine pL_ok 60 _ (xok_skp (xok_pW hx0 hw)) ?_ hf
    unfold trx xW
    rw [skp_o (by decide), skp_o (by decide)]
    unfold pW
    rw [if_pos hw, setf_o (by decide), setf_o (by decide), setf_o (by decide), setf_o (by decide), setf_o (by decide), setf_o (by decide), skp_o (by decide), skp_o (by decide)]
    unfold x0
    rw [setf_o (by decide), setf_o (by decide)]
    exact tr_00
  · exfalso
    have hxw : xW n sg (-2) = fW n sg (skp n sg x0 (-1)) := by
      show skp n sg (pW n sg (skp n sg x0)) (-2) = _
      rw [skp_o (by decide), pW_2 hw]
    unfold rdx at hf
    rw [pL_out (fun z => hw (by rw [← hxw]; exact z.1)), hxw] at hf
    exact hw hf
theorem fG_bd {n p c : Int} {sg : Int → Int} : fG n sg p c = -9 ∨ (p ≤ fG n sg p c ∧ fG n sg p c ≤ p + 4) := by
  unfold fG
  repeat' split
  all_goals omega
theorem fR_bd {n p : Int} {sg : Int → Int} : fR n sg p = -9 ∨ (p ≤ fR n sg p ∧ fR n sg p ≤ p + 4) := by
  unfold fR
  repeat' split
  all_goals omega
theorem fW_bd {n p : Int} {sg : Int → Int} : fW n sg p = -9 ∨ (p ≤ fW n sg p ∧ fW n sg p ≤ p + 4) := by
  unfold fW
  repeat' split
  all_goals omega
theorem pL_fr {n : Int} {sg : Int → Int} : ∀ (k : Nat) (x : Int → Int), xok n x → pL n sg k x (-2) = -9 ∨ (0 ≤ pL n sg k x (-2) ∧ pL n sg k x (-2) ≤ n + 4) := by
  intro k
  induction k with
  | zero => exact fun x hx => Or.inl hx.2.2.2.2.2.2.2.1
  | succ k ih =>
    intro x hx
    have x0_ := hx.1
    have x1_ := hx.2.1
    by_cases hp : x (-2) = -9 ∧ x (-1) < n
    · have e : pL n sg (k + 1) x = pL n sg k (pI n sg x) := by
        show (if x (-2) = -9 ∧ x (-1) < n then pL n sg k (pI n sg x) else x) = _
        rw [if_pos hp]
      rw [e]
      by_cases hat : at_ n sg (x (-1)) = 102
      · have hpi : pI n sg x = skp n sg (pR n sg x) := by unfold pI; rw [if_pos hat]
        rw [hpi]
        by_cases hr : fR n sg (x (-1)) = -9
        · exact ih _ (xok_skp (xok_pR hx hr))
        · have g := (pR_2 (n := n) (sg := sg) (x := x)).2 hr
          have hx2 : skp n sg (pR n sg x) (-2) = fR n sg (x (-1)) := by rw [skp_o (by decide), g]
          rw [pL_out (fun z => hr (by rw [← hx2]; exact z.1)), hx2]
          have := fR_bd (n := n) (sg := sg) (p := x (-1))
          omega
      · have hpi : pI n sg x = skp n sg (pG n sg x) := by unfold pI; rw [if_neg hat]
        rw [hpi]
        by_cases hr : fG n sg (x (-1)) (x 0) = -9
        · exact ih _ (xok_skp (xok_pG hx hr))
        · have g := (pG_2 (n := n) (sg := sg) (x := x) hx.2.2.1).2 hr
          have hx2 : skp n sg (pG n sg x) (-2) = fG n sg (x (-1)) (x 0) := by rw [skp_o (by decide), g]
          rw [pL_out (fun z => hr (by rw [← hx2]; exact z.1)), hx2]
          have := fG_bd (n := n) (sg := sg) (p := x (-1)) (c := x 0)
          omega
    · rw [pL_out hp]
      exact Or.inl hx.2.2.2.2.2.2.2.1
theorem rdv_r {n : Int} {sg : Int → Int} (n0 : 0 ≤ n) : -9 ≤ rdv n sg ∧ rdv n sg ≤ n + 4 := by
  have hx0 := xok_skp (sg := sg) (x0_ok n0)
  have h : rdx n sg (-2) = -9 ∨ (0 ≤ rdx n sg (-2) ∧ rdx n sg (-2) ≤ n + 4) := by
    by_cases hw : fW n sg (skp n sg x0 (-1)) = -9
    · exact pL_fr 60 _ (xok_skp (xok_pW hx0 hw))
    · have hxw : xW n sg (-2) = fW n sg (skp n sg x0 (-1)) := by
        show skp n sg (pW n sg (skp n sg x0)) (-2) = _
        rw [skp_o (by decide), pW_2 hw]
      unfold rdx
      rw [pL_out (fun z => hw (by rw [← hxw]; exact z.1)), hxw]
      have := fW_bd (n := n) (sg := sg) (p := skp n sg x0 (-1))
      have := hx0.1
      have := hx0.2.1
      omega
  unfold rdv
  repeat' split
  all_goals omega
theorem rdv_9 {n : Int} {sg : Int → Int} (n0 : 0 ≤ n) (h : rdv n sg = -9) : rdx n sg (-2) = -9 ∧ 2 ≤ rdx n sg 0 := by
  unfold rdv at h
  by_cases hf : rdx n sg (-2) = -9
  · rw [if_pos hf] at h
    refine ⟨hf, ?_⟩
    by_cases h2 : rdx n sg 0 < 2
    · rw [if_pos h2] at h; omega
    · omega
  · rw [if_neg hf] at h
    exact absurd h hf
theorem J_rd {s t : m_St} (h : J s) (e : ∀ c j, ¬ (23 ≤ c ∧ c ≤ 37) → ¬ c = 84 → ¬ (c = 77 ∧ (j = 18 ∨ j = 19)) → t c j = s c j) (hg : rgk t) : J t := by
  obtain ⟨a1, a2, a3, a4, a5, a6⟩ := h
  refine ⟨?_, ?_, ?_, ?_, ?_, ?_⟩
  · exact Jr_cong (fun c j hc => by unfold uR at hc; exact e c j (by omega) (by omega) (by omega)) a1
  · exact Jt_cong (fun c j hc => by unfold uT at hc; exact e c j (by omega) (by omega) (by omega)) a2
  · exact Jf_cong (fun c j hc => by unfold uF at hc; exact e c j (by omega) (by omega) (by omega)) a3
  · exact Jh_cong (fun c j hc => by unfold uH at hc; exact e c j (by omega) (by omega) (by omega)) a4
  · exact Jk_cong (fun c j hc => by unfold uK uB at hc; exact e c j (by omega) (by omega) (by omega)) a4.1 a5
  · refine ⟨hg, tkok_cong (fun c j h1 h2 => e c j (by omega) (by omega) (by omega)) a6.2.1, fun i => ?_⟩
    rw [e 72 i (by decide) (by decide) (by omega)]
    exact a6.2.2 i
theorem J_rtk {s : m_St} {t : Int} (h : J s) (t0 : 0 ≤ t) (t4 : t < 4) (hz : 0 ≤ s 11 t) : rtk s t := by
  obtain ⟨h1, h2, h3, h4⟩ := h.2.1.2 t t0 t4
  exact ⟨t0, t4, ⟨hz, h2, fun j j0 j1 => ⟨(h4 j j0 j1).1, (h4 j j0 j1).2.1⟩⟩, h3, fun j j0 j1 => (h4 j j0 j1).2.2⟩
theorem mfr_rgk {s s' : m_St} (e : mfr s s') (h : rgk s) : rgk s' := fun i i0 i6 => gok_cong (fun j => e _ _ (by omega) (by omega)) (fun j => e _ _ (by omega) (by omega)) (h i i0 i6)
section OPF
variable {X : List Int32} {d : Nat} {s : m_St} {t k : Int}
theorem op_fault (h : J s) (rt : inR t) : Cl X (d + 20) 30 [vR 0, vI t] s (Pw X (d + 20) 172 [vR 77, vI t]) := by
  have hr := Jt_b (t := t) h
  have e1 := fnd78 (s := s) (c := 81) (a := t) 1 (by decide) (by decide)
  apply t_X5_fault <;> intros
  all_goals first | exact rt | omega | exact h.2.2.2.2.2.1 | exact (J_rtk h (by omega) (by omega) (by omega)).2.2.1 | skip
  · refine Pw_mk ?_
    apply t_X6_fault <;> intros
    all_goals first | exact rt | omega | exact ⟨rfl, h⟩
  · refine Pw_mk ?_
    apply t_X6_fault <;> intros
    all_goals first | exact rt | omega | exact ⟨rfl, h⟩
  · refine Pw_mk ?_
    apply t_X6_fault <;> intros
    all_goals first | exact rt | omega | exact ⟨rfl, J_fnd h (by decide) (by decide)⟩
  · next g1 g2 g3 v7 s7 q =>
    obtain ⟨q1, q2, q3, q4⟩ := q
    have J7 : J s7 := J_rd h (fun c j c1 _ _ => q2 c j c1) q3
    have e81 : s7 81 t = s 81 t := q2 _ _ (by decide)
    have e11 : s7 11 t = s 11 t := q2 _ _ (by decide)
    have e13 : s7 (13 + t) = s (13 + t) := funext fun j => q2 _ _ (by omega)
    refine Pw_mk ?_
    apply t_X6_fault <;> intros
    all_goals first | exact rt | omega | exact J_rtk J7 (by omega) (by omega) (by omega) | skip
    next v6 s6 qm =>
    obtain ⟨m1, m2, m3⟩ := qm
    rw [e11, e13, ← q1] at m1
    exact ⟨by rw [m1], J_rd J7 (fun c j _ c2 c3 => m2 c j c2 c3) (mfr_rgk m2 q3)⟩
theorem ob_fr {s7 : m_St} (hrok : rok s7) (hgk : ∀ i, 0 ≤ i → i < 6 → gok s7 (44 + 4 * i)) : ∀ c j, ¬ hcell c j → ¬ (42 ≤ c ∧ c < 66) → ¬ (c = 38 ∧ 3 ≤ j ∧ j ≤ 5) → ob s7 c j = s7 c j := fun c j h1 h2 h3 => by
  have hb := ro6_bok hrok hgk
  obtain ⟨g1, g2, g3⟩ := gb_rep hb (n := 0) (by omega) (by omega) (fun k hk => by omega)
  show gb (ro6 s7) 0 c j = _
  rw [g2 c j h1]
  unfold ro6
  have h24 := hrok.2.1
  have h23 := hrok.1
  rw [ro_o2 _ (by omega)]
  unfold up3
  rw [upd_o2 (by omega), upd_o2 (by omega), upd_o2 (by omega)]
/-- a hut opened -/
theorem ob_J {s s7 t' : m_St} {t : Int} (h : J s) (t0 : 0 ≤ t) (t4 : t < 4) (hz : 0 ≤ s 11 t) (q2 : rfr s s7) (q3 : rgk s7) (hx : rsx s7 (s 11 t) (s (13 + t)) (rdx (s 11 t) (s (13 + t)))) (hv : rdv (s 11 t) (s (13 + t)) = -9)
    (e : ∀ c j, ¬ c = 83 → ¬ c = 84 → ¬ c = 86 → ¬ (c = 77 ∧ (j = 18 ∨ j = 19)) → t' c j = fil (ob s7) 18 3 (-1) c j) (e83 : ∀ j, 0 ≤ j → j < 198 → t' 83 j = rdx (s 11 t) (s (13 + t)) j) (e86 : ∀ k, 0 ≤ k → k < 3 → t' 86 k = 0) : J t' ∧ ob s7 38 3 = rdx (s 11 t) (s (13 + t)) 0 := by
  obtain ⟨hf, hg2⟩ := rdv_9 hz hv
  obtain ⟨hok_, htr⟩ := rdx_ok hz hf
  have hx2 := hx
  obtain ⟨x1, x2, x3, x4, x5, x6, x7, x8⟩ := hx2
  have hok2 := hok_
  obtain ⟨k1, k2, k3, k4, k5, k6, k7, k8, k9, k10, k11, k12, k13, k14, k15⟩ := hok2
  have J7 : J s7 := J_rd h (fun c j c1 _ _ => q2 c j c1) q3
  have hrok : rok s7 := by
    refine ⟨by omega, by omega, by omega, by omega, fun i i0 i1 => ?_⟩
    obtain ⟨y1, y2⟩ := x8 i i0 (by omega)
    obtain ⟨z1, z2, z3⟩ := k15 i i0 (by omega)
    rw [y1]
    refine ⟨z1, z2, fun c c0 c1 => ?_⟩
    rw [y2 c c0 c1]
    have := z3 c c0 c1
    omega
  have hgk : ∀ i, 0 ≤ i → i < 6 → gok s7 (44 + 4 * i) := J7.v.1.2.2.2.2.2.1
  have hb := ro6_bok hrok hgk
  obtain ⟨r1, r2, r3, r4⟩ := ro6_38 hrok
  obtain ⟨g1, g2, g3⟩ := gb_rep hb (n := 0) (by omega) (by omega) (fun k hk => by omega)
  have fr : ∀ c j, ¬ hcell c j → ¬ (42 ≤ c ∧ c < 66) → ¬ (c = 38 ∧ 3 ≤ j ∧ j ≤ 5) → ob s7 c j = s7 c j := fun c j h1 h2 h3 => by
    show gb (ro6 s7) 0 c j = _
    rw [g2 c j h1]
    unfold ro6
    have h24 := hrok.2.1
    have h23 := hrok.1
    rw [ro_o2 _ (by omega)]
    unfold up3
    rw [upd_o2 (by omega), upd_o2 (by omega), upd_o2 (by omega)]
  have frt : ∀ c j, ¬ hcell c j → ¬ (42 ≤ c ∧ c < 66) → ¬ (c = 38 ∧ 3 ≤ j ∧ j ≤ 5) → ¬ c = 83 → ¬ c = 84 → ¬ c = 86 → ¬ c = 18 → ¬ (c = 77 ∧ (j = 18 ∨ j = 19)) → t' c j = s7 c j := fun c j h1 h2 h3 h4 h5 h6 h7 h8 => by
    rw [e c j h4 h5 h6 h8, fil_o (by omega), fr c j h1 h2 h3]
  have et : ∀ c j, ¬ c = 83 → ¬ c = 84 → ¬ c = 86 → ¬ c = 18 → ¬ (c = 77 ∧ (j = 18 ∨ j = 19)) → t' c j = ob s7 c j := fun c j h1 h2 h3 h4 h5 => by rw [e c j h1 h2 h3 h5, fil_o (by omega)]
  have b3 : ob s7 38 3 = rdx (s 11 t) (s (13 + t)) 0 := by
    show gb (ro6 s7) 0 38 3 = _
    rw [g2 38 3 (by unfold hcell; omega), r1, x3]
  have b4 : ob s7 38 4 = rdx (s 11 t) (s (13 + t)) 1 := by
    show gb (ro6 s7) 0 38 4 = _
    rw [g2 38 4 (by unfold hcell; omega), r2, x4]
  have b5 : ob s7 38 5 = rdx (s 11 t) (s (13 + t)) (-3) := by
    show gb (ro6 s7) 0 38 5 = _
    rw [g2 38 5 (by unfold hcell; omega), r3, x5]
  have hbk : ∀ i, 0 ≤ i → i < rdx (s 11 t) (s (13 + t)) 0 → ob s7 (42 + 4 * i) 1 = rdx (s 11 t) (s (13 + t)) (8 + 5 * i) ∧ ∀ c, 0 ≤ c → c < 4 → ob s7 (42 + 4 * i + 1) c = rdx (s 11 t) (s (13 + t)) (9 + 5 * i + c) := fun i i0 i1 => by
    have hri := ro_in (s := s7) (s7 23 4).toNat (by omega) i i0 (by omega)
    obtain ⟨y1, y2⟩ := x8 i i0 i1
    refine ⟨?_, fun c c0 c1 => ?_⟩
    · show gb (ro6 s7) 0 _ _ = _
      rw [g2 _ _ (by unfold hcell; omega)]
      show ro s7 _ _ _ = _
      rw [hri.1, y1]
    · show gb (ro6 s7) 0 _ _ = _
      rw [g2 _ _ (by unfold hcell; omega)]
      show ro s7 _ _ _ = _
      rw [hri.2 c c0 c1, y2 c c0 c1]
  have hbt : ∀ j, hj (rdx (s 11 t) (s (13 + t)) 0) j → rdx (s 11 t) (s (13 + t)) j = hbase t' j := fun j hjj => by
    unfold hj at hjj
    unfold hbase
    rw [et 38 3 (by decide) (by decide) (by decide) (by decide) (by decide), et 38 4 (by decide) (by decide) (by decide) (by decide) (by decide), b3, b4]
    by_cases j0 : j = 0
    · rw [if_pos j0, j0]
    · rw [if_neg j0]
      by_cases j1 : j = 1 ∨ j = 2
      · rw [if_pos j1]
        rcases j1 with rfl | rfl
        · rfl
        · exact k7
      · rw [if_neg j1]
        by_cases j8 : 8 ≤ j
        · rw [if_pos j8]
          have i0 : 0 ≤ (j - 8) / 5 := by omega
          have i1 : (j - 8) / 5 < rdx (s 11 t) (s (13 + t)) 0 := by omega
          obtain ⟨y1, y2⟩ := hbk _ i0 i1
          by_cases jm : (j - 8) % 5 = 0
          · rw [if_pos jm, et _ _ (by omega) (by omega) (by omega) (by omega) (by omega), y1, show 8 + 5 * ((j - 8) / 5) = j by omega]
          · rw [if_neg jm, et _ _ (by omega) (by omega) (by omega) (by omega) (by omega), y2 _ (by omega) (by omega), show 9 + 5 * ((j - 8) / 5) + ((j - 8) % 5 - 1) = j by omega]
        · rw [if_neg j8]
          have : j = 5 ∨ j = 6 := by omega
          rcases this with rfl | rfl
          · exact k9
          · exact k10
  have hbok_t : bok t' := by
    have hb2 : bok (ob s7) := by
      have hho := hst_ok (R := ro6 s7 38 5) (ds := ro6 s7 41) (hbase_ok hb) (n := 0) (fun k hk => by omega) 0 (Nat.le_refl _)
      refine ⟨by rw [b3]; exact k3, by rw [b3]; exact k4, by rw [b4]; exact k5, by rw [b4]; exact k6, fun i i0 i1 => ?_, g1.2.2.2.2.2.1⟩
      rw [b3] at i1
      obtain ⟨y1, y2⟩ := hbk i i0 i1
      obtain ⟨z1, z2, z3⟩ := k15 i i0 i1
      rw [y1]
      refine ⟨z1, z2, fun c c0 c1 => ?_⟩
      rw [y2 c c0 c1]
      have := z3 c c0 c1
      omega
    exact bok_cong (fun c j hc => by unfold uH0 at hc; exact et c j (by omega) (by omega) (by omega) (by omega) (by omega)) hb2
  have t38 : ∀ j, t' 38 j = ob s7 38 j := fun j => et 38 j (by decide) (by decide) (by decide) (by decide) (by omega)
  have o9 : ob s7 38 9 = 0 := g3
  have hm0 : HM (t' 38 5) (hbase t') (t' 41) (t' 38 9) (t' 83) := by
    rw [t38, t38, b5, o9]
    refine ⟨by omega, by omega, ?_, ?_, ?_, fun k hk => by omega, fun j hjj => ?_, fun k hk => by omega⟩
    · rw [e83 3 (by decide) (by decide)]; exact k11
    · rw [e83 4 (by decide) (by decide)]; exact k12
    · rw [e83 7 (by decide) (by decide)]; exact htr
    · have hb0 : hbase t' 0 = rdx (s 11 t) (s (13 + t)) 0 := (hbt 0 (by unfold hj; omega)).symm
      rw [hb0] at hjj
      have hj2 := hjj
      unfold hj at hj2
      rw [e83 j (by omega) (by omega)]
      exact hbt j hjj
  refine ⟨⟨?_, ?_, ?_, ⟨hbok_t, hm0, ?_⟩, ?_, ?_⟩, b3⟩
  · exact Jr_cong (fun c j hc => by unfold uR at hc; exact frt c j (by unfold hcell; omega) (by omega) (by omega) (by omega) (by omega) (by omega) (by omega) (by omega)) J7.1
  · exact Jt_cong (fun c j hc => by unfold uT at hc; exact frt c j (by unfold hcell; omega) (by omega) (by omega) (by omega) (by omega) (by omega) (by omega) (by omega)) J7.2.1
  · exact Jf_cong (fun c j hc => by unfold uF at hc; exact frt c j (by unfold hcell; omega) (by omega) (by omega) (by omega) (by omega) (by omega) (by omega) (by omega)) J7.2.2.1
  · rw [t38, t38, o9]
    refine rep_cong (h := hbase (ro6 s7)) (fun c j hc => by unfold uH0 at hc; exact et c j (by omega) (by omega) (by omega) (by omega) (by omega)) ?_ (hbase_ok hb) g1
    show ∀ j, j < 38 → hbase t' j = hbase (ro6 s7) j
    refine hbase_cong (fun c j hc => ?_) hb.1
    unfold uB at hc
    rw [et c j (by omega) (by omega) (by omega) (by omega) (by omega)]
    exact g2 c j (by unfold hcell; omega)
  · refine ⟨?_, fun k k0 k3 => ?_⟩
    · rw [frt 17 2 (by unfold hcell; omega) (by decide) (by omega) (by decide) (by decide) (by decide) (by decide) (by omega)]
      exact J7.2.2.2.2.1.1
    · have e18 : t' 18 k = -1 := by rw [e 18 k (by decide) (by decide) (by decide) (by omega), fil_in k0 k3]
      rw [e18]
      exact ⟨by omega, by omega, fun _ => e86 k k0 k3, fun z => absurd rfl z⟩
  · exact Jg_cong (fun c j hc => by unfold uG at hc; exact frt c j (by unfold hcell; omega) (by omega) (by omega) (by omega) (by omega) (by omega) (by omega) (by omega)) J7.2.2.2.2.2
theorem isk_loop {P : Option Value → m_St → Prop} (kk : P (some (vI (s 83 0))) (rwr s 86 0 3 (fun _ => 0))) : Rn X (d + 4) 181 52 [some (vR 77), some (vI t), some (vI 0)] [] s P := by
  have loop : ∀ (mm : Nat) (k : Int), 0 ≤ k → k + mm = 3 → Rn X (d + 4) 181 52 [some (vR 77), some (vI t), some (vI k)] [] (rwr s 86 0 k (fun _ => 0)) P := by
    intro mm
    induction mm with
    | zero =>
      intro k k0 km
      have : k = 3 := by omega
      subst this
      apply t_X6_hut_52 k0 <;> intros
      all_goals first | omega | skip
      rw [rwr_nc (by decide)]; exact kk
    | succ mm ih =>
      intro k k0 km
      apply t_X6_hut_52 k0 <;> intros
      all_goals first | omega | skip
      rw [rwr_up k0 (by omega) rfl]
      exact ih (k + 1) (by omega) (by omega)
  have := loop 3 0 (by omega) (by omega)
  rw [rwr_0] at this
  exact this
theorem op_hut (h : J s) (rt : inR t) : Cl X (d + 20) 47 [vR 0, vI t] s (Pw X (d + 20) 181 [vR 77, vI t]) := by
  have hr := Jt_b (t := t) h
  have e1 := fnd78 (s := s) (c := 81) (a := t) 1 (by decide) (by decide)
  have rest : ∀ v7 s7, 0 ≤ t → t < 4 → ¬ s 11 t = -1 → qD s t v7 s7 → inR v7 ∧ (v7 = -9 → rok s7) ∧ ∀ i, 0 ≤ i → i < 6 → gok s7 (44 + 4 * i) := by
    intro v7 s7 t0 t4 hz ⟨q1, q2, q3, q4⟩
    have hb := hr t0 t4
    have hvr := rdv_r (n := s 11 t) (sg := s (13 + t)) (by omega)
    have J7 : J s7 := J_rd h (fun c j c1 _ _ => q2 c j c1) q3
    refine ⟨by omega, fun hv => ?_, J7.v.1.2.2.2.2.2.1⟩
    obtain ⟨x1, x2, x3, x4, x5, x6, x7, x8⟩ := q4 hv
    obtain ⟨hf, hg2⟩ := rdv_9 (n := s 11 t) (sg := s (13 + t)) (by omega) (by rw [← q1]; exact hv)
    obtain ⟨hok_, htr⟩ := rdx_ok (n := s 11 t) (sg := s (13 + t)) (by omega) hf
    obtain ⟨k1, k2, k3, k4, k5, k6, k7, k8, k9, k10, k11, k12, k13, k14, k15⟩ := hok_
    refine ⟨by omega, by omega, by omega, by omega, fun i i0 i1 => ?_⟩
    obtain ⟨y1, y2⟩ := x8 i i0 (by omega)
    obtain ⟨z1, z2, z3⟩ := k15 i i0 (by omega)
    rw [y1]
    refine ⟨z1, z2, fun c c0 c1 => ?_⟩
    rw [y2 c c0 c1]
    have := z3 c c0 c1
    omega
  apply t_X5_hut <;> intros
  all_goals first | exact rt | omega | exact h.2.2.2.2.2.1 | exact (J_rtk h (by omega) (by omega) (by omega)).2.2.1 | skip
  · refine Pw_mk ?_
    apply t_X6_hut <;> intros
    all_goals first | exact rt | omega | exact ⟨rfl, h⟩
  · refine Pw_mk ?_
    apply t_X6_hut <;> intros
    all_goals first | exact rt | omega | exact ⟨rfl, h⟩
  · refine Pw_mk ?_
    apply t_X6_hut <;> intros
    all_goals first | exact rt | omega | exact ⟨rfl, J_fnd h (by decide) (by decide)⟩
  · next g1 g2 g3 v7 s7 q => exact (rest v7 s7 g1 g2 g3 q).1
  · next g1 g2 g3 v7 s7 q hv => exact (rest v7 s7 g1 g2 g3 q).2.1 hv
  · next g1 g2 g3 v7 s7 q hv i i0 i6 => exact (rest v7 s7 g1 g2 g3 q).2.2 i i0 i6
  · next g1 g2 g3 v7 s7 q hv =>
    have hb := hr g1 g2
    obtain ⟨q1, q2, q3, q4⟩ := q
    have hx := q4 hv
    have hrk := (rest v7 s7 g1 g2 g3 ⟨q1, q2, q3, q4⟩).2.1 hv
    have fr := ob_fr hrk (rest v7 s7 g1 g2 g3 ⟨q1, q2, q3, q4⟩).2.2
    have f8 : ∀ c j, 10 ≤ c → c ≤ 16 ∨ 77 ≤ c → fil (ob s7) 18 3 (-1) c j = s c j := fun c j c1 c2 => by
      rw [fil_o (by omega), fr c j (by unfold hcell; omega) (by omega) (by omega)]
      exact q2 c j (by omega)
    have e81 := f8 81 t (by decide) (by decide)
    have e11 := f8 11 t (by decide) (by decide)
    have e13 : fil (ob s7) 18 3 (-1) (13 + t) = s (13 + t) := funext fun j => f8 _ _ (by omega) (by omega)
    have hrt : rtk (fil (ob s7) 18 3 (-1)) t := by
      obtain ⟨m1, m2, m3, m4, m5⟩ := J_rtk h g1 g2 (by omega)
      unfold rtk mtt
      rw [e11, e13, e81]
      refine ⟨m1, m2, m3, m4, fun j j0 j1 => ?_⟩
      rw [f8 82 _ (by decide) (by decide)]
      exact m5 j j0 j1
    refine Pw_mk ?_
    apply t_X6_hut <;> intros
    all_goals first | exact rt | omega | exact hrt | skip
    · next v6 s6 qm =>
      obtain ⟨m1, m2, m3⟩ := qm
      rw [e11, e13, ← q1] at m1
      omega
    · next v6 s6 qm hv6 =>
      obtain ⟨m1, m2, m3⟩ := qm
      rw [e11, e13] at m3
      refine isk_loop ?_
      have J8 := ob_J (t' := rwr (rwr s6 83 0 198 (fun k => s6 84 (0 + k))) 86 0 3 (fun _ => 0)) h g1 g2 (by omega) q2 q3 hx (by rw [← q1]; exact hv) (fun c j h1 h2 h3 h4 => by rw [rwr_nc h3, rwr_nc h1]; exact m2 c j h2 h4) (fun j j0 j1 => by rw [rwr_nc (by decide), rwr_in (by omega)]; rw [show 0 + (j - 0) = j by omega]; exact m3 hv6 j j0 j1) (fun k k0 k3 => by rw [rwr_in (by omega)])
      refine ⟨?_, J8.1⟩
      have e38 : fil (ob s7) 18 3 (-1) 38 3 = ob s7 38 3 := fil_o (by omega)
      rw [rwr_in (by omega), e38, J8.2, show (0 : Int) + (0 - 0) = 0 by decide, m3 hv6 0 (by omega) (by omega)]
    · next v6 s6 qm hv6 =>
      obtain ⟨m1, m2, m3⟩ := qm
      rw [e11, e13, ← q1] at m1
      omega
  · next g1 g2 g3 v7 s7 q hv =>
    have hb := hr g1 g2
    obtain ⟨q1, q2, q3, q4⟩ := q
    have J7 : J s7 := J_rd h (fun c j c1 _ _ => q2 c j c1) q3
    have e81 : s7 81 t = s 81 t := q2 _ _ (by decide)
    have e11 : s7 11 t = s 11 t := q2 _ _ (by decide)
    have e13 : s7 (13 + t) = s (13 + t) := funext fun j => q2 _ _ (by omega)
    refine Pw_mk ?_
    apply t_X6_hut <;> intros
    all_goals first | exact rt | omega | exact J_rtk J7 (by omega) (by omega) (by omega) | skip
    · next v6 s6 qm =>
      obtain ⟨m1, m2, m3⟩ := qm
      rw [e11, e13, ← q1] at m1
      have := (rest v7 s7 g1 g2 g3 ⟨q1, q2, q3, q4⟩).1
      omega
    · next v6 s6 qm hv6 =>
      obtain ⟨m1, m2, m3⟩ := qm
      rw [e11, e13, ← q1] at m1
      omega
    · next v6 s6 qm hv6 =>
      obtain ⟨m1, m2, m3⟩ := qm
      exact ⟨rfl, J_rd J7 (fun c j _ c2 c3 => m2 c j c2 c3) (mfr_rgk m2 q3)⟩
end OPF
