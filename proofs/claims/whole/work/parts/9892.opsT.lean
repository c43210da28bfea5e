/-! calls side by side: a talk, whole -/
theorem J_told {s t : m_St} {v : Int} (h : J s) (e : ∀ c j, ¬ (c = 0 ∧ j = 9) → ¬ (66 ≤ c ∧ c ≤ 75) → ¬ c = 80 → ¬ c = 84 → ¬ (88 ≤ c ∧ c ≤ 91) → ¬ (c = 77 ∧ 14 ≤ j) → t c j = s c j) (ht : tkok t) (h72 : ∀ i, inR (t 72 i)) (h9 : t 0 9 = v) : J (m_upd t 77 11 v) := by
  have J2 : J (m_upd t 0 9 (s 0 9)) := J_scr h (fun c j h1 h2 h3 h4 h5 => by
    by_cases h09 : c = 0 ∧ j = 9
    · rw [h09.1, h09.2, upd_eq]
    · rw [upd_o2 h09]; exact e c j h09 h1 h2 h3 h4 h5) (tkok_cong (fun c j c0 c1 => upd_nc (by omega)) ht) (fun i => by rw [upd_nc (by decide)]; exact h72 i)
  have hf := J2.2.2.1
  refine J_ans J2 (fun c j h0 h7 => by rw [upd_nc h7, upd_nc h0]) ?_ ?_ ?_ ?_ ?_
  · rw [upd_nc (by decide), upd_nj (by decide)]
  · rw [upd_nj (by decide), upd_nc (by decide)]
  · rw [upd_eq, upd_nc (by decide), h9]
  · have := hf.2.2.1
    rw [upd_nc (by decide), upd_nj (by decide)] at this
    rw [upd_nj (by decide), upd_nc (by decide)]
    exact this
  · have := hf.2.2.2.1
    rw [upd_nc (by decide), upd_nj (by decide)] at this
    rw [upd_nj (by decide), upd_nc (by decide)]
    exact this
theorem opk_of {s t s' : m_St} {i j : Int} (hk : mok s) (i0 : 0 ≤ i) (i1 : i < s 83 0) (j0 : 0 ≤ j) (j1 : j < s 83 0) (hq : qOp t i j s') (e83 : t 83 = s 83) (e5 : t 38 5 = s 38 5) : opk s' (s 83 (8 + 5 * i)) (s 83 (8 + 5 * j)) (s 38 5) ∧ wt s' 0 = W0 (s 83) i j ∧ w8 (wt s' 0) := by
  have hw := wt_W0 hq
  rw [e83] at hw
  obtain ⟨q1, q2, q3, _⟩ := hq
  obtain ⟨_, a1, a2, _⟩ := hk.g i0 i1
  obtain ⟨_, b1, b2, _⟩ := hk.g j0 j1
  refine ⟨⟨by rw [q2, e83], by rw [q3, e83], a1, a2, b1, b2, by rw [q1 38 5 (by decide) (by decide), e5], ?_⟩, hw, ?_⟩
  · rw [q1 83 7 (by decide) (by decide), e83]
    exact hk.2
  · rw [hw]
    exact w8_W0 hk i0 i1 j0 j1
theorem asy_M {s t : m_St} {r : Int} (h : J s) (r0 : 0 ≤ r) (r6 : r < 6) (e8 : ∀ j, t 78 j = s 78 j) (e9 : ∀ j, t 79 j = s 79 j) : asy s r ↔ asM t r := by
  obtain ⟨a1, a2, a3, a4⟩ := h.1.2 r r0 r6
  unfold asy asM
  rw [e8, a3]
  constructor
  · intro ha j j0 j1
    rw [e9, (a4 j j0 j1).2]
    exact ha j j0 j1
  · intro ha j j0 j1
    have := ha j j0 j1
    rw [e9, (a4 j j0 j1).2] at this
    exact this
section OPT
variable {X : List Int32} {d : Nat} {s : m_St} {r l : Int}
theorem qTr_0 {s1 : m_St} {v1 : Int} (h : qTr s r l v1 s1) (hv : v1 = 0) : s1 = s ∧ 0 ≤ r ∧ r < 6 ∧ ¬ s 38 7 = -1 ∧ 0 ≤ s 2 r ∧ s 2 r ≤ l ∧ asy s r := by
  rcases h with ⟨q1, q2, q3⟩ | ⟨q1, q2, q3⟩ | ⟨q1, q3⟩ | ⟨q1, q3⟩
  · exact ⟨q2, q3⟩
  · omega
  · omega
  · omega
theorem qTr_inR {s1 : m_St} {v1 : Int} (h : qTr s r l v1 s1) : inR v1 := by
  rcases h with ⟨q1, _⟩ | ⟨q1, _⟩ | ⟨q1, _⟩ | ⟨q1, _⟩ <;> omega
theorem asv_0 {t : m_St} : asv t r = 0 ↔ ¬ asM t r := by
  unfold asv
  constructor
  · intro h ha
    rw [pb_t ha] at h
    omega
  · intro h
    exact pb_f h
theorem op_talk (h : J s) (rr : inR r) : Cl X (d + 20) 106 [vR 0, vI r] s (Pw X (d + 20) 217 [vR 77, vI r]) := by
  have h7 := J_7 h
  have hr := Jr_b (r := r) h
  have hrk := J_rwk h
  have u60 : s 83 5 ≤ 6 := h7.2.2.1
  apply t_X5_talk <;> intros
  all_goals first | exact rr | exact hrk _ (by assumption) (by assumption) | omega | (next v1 s1 q => exact qTr_inR q) | skip
  · next v1 s1 q hv =>
    obtain ⟨q1, q2, q3, q4, _⟩ := qTr_0 q hv
    subst q1
    exact (J_up h q4).1
  · next v1 s1 q hv =>
    obtain ⟨q1, r0, r6, hu, z0, z4, ha⟩ := qTr_0 q hv
    subst q1
    have hr := hr r0 r6
    obtain ⟨_, huk, e7, e8, l7, l8⟩ := J_up h hu
    have u := huk.u
    have h06 := huk.1.1.2.1
    obtain ⟨Jt, _, _⟩ := J_tka h hu
    have ht := tpr_tka h hu
    have ts : ∀ c j, ¬ (66 ≤ c ∧ c ≤ 70) → tka s1 c j = s1 c j := fun c j hc => tka_o hc
    have t2 := ts 2 r (by omega)
    have a4 := (h.1.2 r r0 r6).2.2.2
    have hx := talk_C (X := X) (d := d + 14) (x2 := v1) (P := Pw X (d + 20) 217 [vR 77, vI r]) r0 r6 (sc := s1 (4 + r)) (s1 2 r).toNat 0 (tka s1) _ (by omega) (by rw [t2]; omega) (by rw [t2]; exact z4) (fun j j0 j1 => by rw [ts (4 + r) j (by omega)]; rw [t2] at j1; exact (a4 j j0 j1).1) ht (fun j j0 j1 => ts (4 + r) j (by omega)) (fun s' w' ht' hf' hw' => ?_)
    · exact hx
    · have fs : ∀ c q, ¬ (66 ≤ c ∧ c ≤ 70) → s' c q = s1 c q := fun c q hc => by rw [hf' c q (by omega), ts c q hc]
      have Js' : J s' := J_scr h (fun c j c1 _ _ _ _ => fs c j (by omega)) ht'.1 (fun i => by rw [fs 72 i (by omega)]; exact h.2.2.2.2.2.2.2 i)
      generalize hl : shw (s1 83 (8 + 5 * (s1 83 5 - 1))) (s1 83 (8 + 5 * (s1 83 6 - 1))) w' = lv
      generalize hn : (tkr (s1 83 (8 + 5 * (s1 83 5 - 1))) (s1 83 (8 + 5 * (s1 83 6 - 1))) (s1 38 5) (s1 (4 + r)) (s1 2 r).toNat 0 (W0 (s1 83) (s1 83 5 - 1) (s1 83 6 - 1))).1 = nv
      have f0 : ∀ c q, ¬ (66 ≤ c ∧ c ≤ 70) → ¬ c = 0 → m_upd s' 0 9 lv c q = s1 c q := fun c q h1 h2 => by rw [upd_nc h2, fs c q h1]
      have x5 := f0 83 5 (by omega) (by decide)
      have x6 := f0 83 6 (by omega) (by decide)
      have x8 := f0 78 r (by omega) (by decide)
      have hrw : rwM (m_upd s' 0 9 lv) r := J_rwM h (fun j => f0 78 j (by omega) (by decide)) (fun j => f0 79 j (by omega) (by decide)) r r0 r6
      have has : asM (m_upd s' 0 9 lv) r := (asy_M h r0 r6 (fun j => f0 78 j (by omega) (by decide)) (fun j => f0 79 j (by omega) (by decide))).mp ha
      have hasv : ¬ asv (m_upd s' 0 9 lv) r = 0 := fun z => asv_0.mp z has
      refine Pw_mk ?_
      apply t_X6_talk <;> intros
      all_goals first | exact rr | exact hrw | exact absurd (by assumption) hasv | omega | skip
      next s9 hq =>
      have e83 : m_upd s' 0 9 lv 83 = s1 83 := funext fun q => f0 83 q (by omega) (by decide)
      have e38 : m_upd s' 0 9 lv 38 5 = s1 38 5 := f0 38 5 (by omega) (by decide)
      rw [x5, x6] at hq
      obtain ⟨ho, hw0, hw8⟩ := opk_of huk.1 u.1 u.2.1 u.2.2.1 u.2.2.2 hq e83 e38
      have f9 : ∀ c q, ¬ c = 88 → ¬ c = 89 → s9 c q = m_upd s' 0 9 lv c q := hq.1
      have y8 : s9 78 r = s1 78 r := by rw [f9 78 r (by decide) (by decide)]; exact x8
      refine talk_M (sc := s1 (4 + r)) r0 r6 (s1 2 r).toNat 0 s9 none (by omega) (by rw [y8]; omega) (by rw [y8]; omega) (fun j j0 j1 => ?_) ho hw8 (fun s10 w10 f10 hw10 => ?_)
      · rw [y8] at j1
        rw [f9 79 _ (by decide) (by decide), f0 79 _ (by omega) (by decide)]
        exact ⟨(a4 j j0 (by omega)).2, ha j j0 (by omega)⟩
      · rw [hw0] at hw10 ⊢
        have eww : w10 = w' := by rw [← hw10, ← hw']
        rw [hn, eww, hl]
        refine ⟨rfl, ?_⟩
        have fa : ∀ c q, ¬ (88 ≤ c ∧ c ≤ 91) → s10 c q = m_upd s' 0 9 lv c q := fun c q hc => by rw [f10 c q (by omega), f9 c q (by omega) (by omega)]
        refine J_told Js' (fun c q h09 c1 c2 c3 c4 c5 => by rw [fa c q c4, upd_o2 h09]) (tkok_cong (fun c q c0 c1 => by rw [fa c q (by omega), upd_nc (by omega)]) ht'.1) (fun q => by rw [fa 72 q (by decide), upd_nc (by decide)]; exact Js'.2.2.2.2.2.2.2 q) ?_
        rw [fa 0 9 (by decide), upd_eq]
  · next v1 s1 q hv =>
    rcases q with ⟨q1, _⟩ | ⟨q1, q2, q3⟩ | ⟨q1, q2, r0, r6, q3⟩ | ⟨q1, r0, r6, q3, q4⟩
    · exact absurd q1 hv
    · subst q2 q1
      refine Pw_mk ?_
      apply t_X6_talk <;> intros
      all_goals first | exact rr | omega | exact ⟨rfl, h⟩
    · subst q2 q1
      refine Pw_mk ?_
      apply t_X6_talk <;> intros
      all_goals first | exact rr | omega | exact ⟨rfl, h⟩
    · have hr := hr r0 r6
      have f5 : ∀ f, fnd s f 83 5 = s 83 5 := fun f => fnd_o (by decide) (by decide)
      have f78 : ∀ f j, fnd s f 78 j = s 78 j := fun f j => fnd_o (by decide) (by decide)
      have f79 : ∀ f j, fnd s f 79 j = s 79 j := fun f j => fnd_o (by decide) (by decide)
      subst q1
      rcases q4 with ⟨q4, q5⟩ | ⟨q4, q5, q6⟩ | ⟨q4, q5, q6, q7⟩
      · subst q4
        have z5 := f5 1
        have z8 := f78 1 r
        refine Pw_mk ?_
        apply t_X6_talk <;> intros
        all_goals first | exact rr | omega | exact ⟨rfl, J_fnd h (by decide) (by decide)⟩
      · exfalso; omega
      · subst q4
        have z5 := f5 3
        have z8 := f78 3 r
        have hrw : rwM (fnd s 3) r := J_rwM h (f78 3) (f79 3) r r0 r6
        have has : asv (fnd s 3) r = 0 := asv_0.mpr (fun z => q7 ((asy_M h r0 r6 (f78 3) (f79 3)).mpr z))
        refine Pw_mk ?_
        apply t_X6_talk <;> intros
        all_goals first | exact rr | exact hrw | exact absurd has (by assumption) | omega | exact ⟨rfl, J_fnd h (by decide) (by decide)⟩
end OPT
