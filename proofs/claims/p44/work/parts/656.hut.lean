/-! the hut opened out of the law's text -/
theorem rep_eq {s : m_St} {h h' : Int → Int} (e0 : h' 0 = h 0) (e1 : h' 1 = h 1) (e2 : h' 2 = h 2) (e5 : h' 5 = h 5) (e6 : h' 6 = h 6) (ek : ∀ i, 0 ≤ i → i < h 0 → h' (8 + 5 * i) = h (8 + 5 * i) ∧ ∀ c, 0 ≤ c → c < 4 → h' (9 + 5 * i + c) = h (9 + 5 * i + c)) (hr : rep s h) : rep s h' := by
  unfold rep at hr ⊢
  rw [e0, e1, e2, e5, e6]
  obtain ⟨a1, a2, a3, a4, a5, a6, a7⟩ := hr
  refine ⟨a1, a2, a3, a4, a5, a6, fun i i0 i1 => ?_⟩
  obtain ⟨b1, b2⟩ := a7 i i0 i1
  obtain ⟨k1, k2⟩ := ek i i0 i1
  rw [k1]
  refine ⟨b1, fun c c0 c1 => ?_⟩
  rw [k2 c c0 c1]
  exact b2 c c0 c1
theorem hut_K {s0 s8 : m_St} {w m n : Int} {x sg : Int → Int} (w0 : 0 ≤ w) (w4 : w ≤ 40) (m0 : 0 ≤ m) (m5 : m ≤ 5) (n2 : 2 ≤ n) (n6 : n ≤ 6) (hp : pL_ s0 m) (hg : g9 s0 n) (z79 : ∀ j, s0 79 j = 0) (hgk : ∀ i, 0 ≤ i → i < 6 → gok s8 (44 + 4 * i)) (hx : rsx s8 60 sg (setf x (-1) 60)) (px : PX s0 x w m n) (e8 : ∀ c j, 77 ≤ c → s8 c j = s0 c j) : rok s8 ∧ ob s8 38 3 = n ∧ K (fil (ob s8) 18 3 (-1)) w m n w 0 0 0 ∧ ∀ c j, 77 ≤ c → fil (ob s8) 18 3 (-1) c j = s0 c j := by
  obtain ⟨x1, x2, x3, x4, x5, x6, x7, x8⟩ := hx
  rw [setf_o (by decide)] at x3 x4 x5 x8
  obtain ⟨p1, p2, p3, p5, p6, p7, p8⟩ := px
  rw [p1] at x3 x8
  rw [p2] at x4
  have hrok : rok s8 := by
    refine ⟨by omega, by omega, by omega, by omega, fun i i0 i1 => ?_⟩
    obtain ⟨y1, y2⟩ := x8 i i0 (by omega)
    obtain ⟨q1, q2⟩ := p8 i i0 (by omega)
    obtain ⟨b1, b2, b3⟩ := hg i i0 (by omega)
    rw [y1, setf_o (by omega), q1]
    refine ⟨b1, b2, fun c c0 c1 => ?_⟩
    rw [y2 c c0 c1, setf_o (by omega), q2 c c0 c1]
    have := b3 c c0 c1
    omega
  have hb := ro6_bok hrok hgk
  obtain ⟨r1, r2, r3, r4⟩ := ro6_38 hrok
  obtain ⟨g1, g2, g3⟩ := gb_rep hb (n := 0) (by omega) (by omega) (fun k hk => by omega)
  have o8 : ∀ c j, ¬ hcell c j → ob s8 c j = ro6 s8 c j := g2
  have f77 : ∀ c j, 77 ≤ c → fil (ob s8) 18 3 (-1) c j = s0 c j := fun c j hc => by
    rw [filK_o (by omega), o8 c j (by unfold hcell; omega)]
    unfold ro6
    have := hrok.1
    have := hrok.2.1
    rw [ro_o2 _ (by omega), up3_o (by omega), e8 c j hc]
  have t38 : ∀ j, fil (ob s8) 18 3 (-1) 38 j = ob s8 38 j := fun j => filK_o (by omega)
  have b3 : ob s8 38 3 = n := by rw [o8 38 3 (by unfold hcell; omega), r1, x3]
  have b5 : fil (ob s8) 18 3 (-1) 38 5 = x (-3) := by rw [t38, o8 38 5 (by unfold hcell; omega), r3, x5]
  have b9 : fil (ob s8) 18 3 (-1) 38 9 = 0 := by rw [t38]; exact g3
  refine ⟨hrok, b3, ⟨?_, ⟨n2, n6, w0, w4, w0, Int.le_refl _, Or.inl rfl, ?_, ?_, ?_, ?_, m0, m5, fun i i0 i1 => ?_, pL_cong (fun j => f77 77 j (by decide)) hp, ?_⟩, ?_⟩, f77⟩
  · refine rep_o (s := ob s8) (fun c j c0 c1 => filK_o (by omega)) (by rw [hL_0]; exact n6) ?_
    have g1' : rep (ob s8) (hbase (ro6 s8)) := g1
    refine rep_eq ?_ ?_ ?_ ?_ ?_ (fun i i0 i1 => ?_) g1'
    · show n = ro6 s8 38 3
      rw [r1, x3]
    · show w = ro6 s8 38 4
      rw [r2, x4]
    · show w = ro6 s8 38 4
      rw [r2, x4]
    · rfl
    · rfl
    · have i1' : i < n := by
        have : hbase (ro6 s8) 0 = ro6 s8 38 3 := rfl
        rw [this, r1, x3] at i1
        exact i1
      have hri := ro_in (s := s8) (s8 23 4).toNat (by omega) i i0 (by omega)
      obtain ⟨y1, y2⟩ := x8 i i0 i1'
      obtain ⟨q1, q2⟩ := p8 i i0 i1'
      rw [hbase_kind i0, hL_8 (by omega), f77 78 _ (by decide)]
      refine ⟨?_, fun c c0 c1 => ?_⟩
      · rw [show 8 + 5 * i - 8 = 5 * i by omega]
        show _ = ro s8 _ _ _
        rw [hri.1, y1, setf_o (by omega), q1]
      · rw [hbase_w i0 c0 c1, hL_8 (by omega), f77 78 _ (by decide), show 9 + 5 * i + c - 8 = 5 * i + 1 + c by omega]
        show _ = ro s8 _ _ _
        rw [hri.2 c c0 c1, y2 c c0 c1, setf_o (by omega), q2 c c0 c1]
  · rw [f77 79 0 (by decide), z79]; decide
  · rw [f77 79 0 (by decide), z79]; omega
  · rw [f77 79 1 (by decide), z79]; decide
  · rw [f77 79 1 (by decide), z79]; omega
  · obtain ⟨k1, k2, k3⟩ := hg i i0 i1
    rw [f77 78 _ (by decide)]
    refine ⟨k1, k2, fun c c0 c1 => ?_⟩
    rw [f77 78 _ (by decide)]
    have := k3 c c0 c1
    omega
  · rw [b5]
    exact trL_cong (fun j => f77 77 j (by decide)) p7
  · refine ⟨b9, Int.le_refl _, ?_, Int.le_refl _, Int.le_refl _, fun i i0 i1 => by omega⟩
    unfold syd
    rw [b9]
    rfl
theorem rdv_ok {sg x : Int → Int} {w m n : Int} {s0 : m_St} {a : Int} {cc : Nat} (h : RD sg a cc x) (hs : ∀ j, a ≤ j → j < 60 → sg j = 32) (px : PX s0 x w m n) (n2 : 2 ≤ n) : rdv 60 sg = -9 ∧ rdx 60 sg = setf x (-1) 60 := by
  have e := RD_end h hs
  have x2 := h.2.1
  refine ⟨?_, e⟩
  unfold rdv
  rw [e, setf_o (by decide), setf_o (by decide), if_pos x2, px.1, if_neg (by omega)]
theorem sp_makesL {X : m_X} {d : Nat} {P : Option Value → m_St → Prop} {w m n b : Int} {s0 : m_St} (hU : 2 ≤ X.2) (w0 : 0 ≤ w) (w4 : w ≤ 40) (m0 : 0 ≤ m) (m5 : m ≤ 5) (n2 : 2 ≤ n) (n6 : n ≤ 6) (hp : pL_ s0 m) (hg : g9 s0 n) (h10 : s0 10 2 = 60) (z79 : ∀ j, s0 79 j = 0) (hrg : rgk s0) (hgk : ∀ i, 0 ≤ i → i < 6 → gok s0 (44 + 4 * i)) (kk : ∀ s, K s w m n w 0 0 0 → (∀ c j, 77 ≤ c → s c j = s0 c j) → P (some (vI 1)) s) : Cl X (d + 8) 160 [vR 0, vI w, vI m, vR 77, vI n, vR 78, vI b] s0 P := by
  refine lm_makes hU w0 w4 m0 m5 n2 n6 hp hg h10 (fun s a cc x z10 z11 z12 h => ?_)
  obtain ⟨h1, h2, h3, h4, h5, h6, h7, h8, h9, -, -, h12⟩ := h
  have e13 : (13 : Int) + 0 = 13 := by decide
  have ht : tok (s 11 0) (s (13 + 0)) := by rw [h2, e13]; exact ⟨by decide, by decide, h3⟩
  have hr1 : rgk s := fun i i0 i6 => gok_cong (fun j => h1 _ _ (by omega) (by omega)) (fun j => h1 _ _ (by omega) (by omega)) (hrg i i0 i6)
  have hk1 : ∀ i, 0 ≤ i → i < 6 → gok s (44 + 4 * i) := fun i i0 i6 => gok_cong (fun j => h1 _ _ (by omega) (by omega)) (fun j => h1 _ _ (by omega) (by omega)) (hgk i i0 i6)
  obtain ⟨v9, hrx⟩ := rdv_ok h5 h4 h6 n2
  apply t_L_makes_64 hU <;> intros
  all_goals first | omega | skip
  apply t_X5_fault <;> intros
  all_goals first | omega | exact ht | exact hr1 | skip
  next g1 g2 g3 v7 s7 q =>
  obtain ⟨q1, q2, q3, q4⟩ := q
  rw [h2, e13, v9] at q1
  subst q1
  have f11 : s7 11 0 = 60 := by rw [q2 11 0 (by omega), h2]
  have f13 : s7 13 = s 13 := funext fun j => q2 13 j (by omega)
  have ht7 : tok (s7 11 0) (s7 (13 + 0)) := by rw [f11, e13, f13]; exact ⟨by decide, by decide, h3⟩
  have hk7 : ∀ i, 0 ≤ i → i < 6 → gok s7 (44 + 4 * i) := fun i i0 i6 => gok_cong (fun j => q2 _ _ (by omega)) (fun j => q2 _ _ (by omega)) (hk1 i i0 i6)
  have rest : ∀ (v : Int) (s8 : m_St), qD s7 0 v s8 → v = -9 ∧ rok s8 ∧ (∀ i, 0 ≤ i → i < 6 → gok s8 (44 + 4 * i)) ∧ ob s8 38 3 = n ∧ K (fil (ob s8) 18 3 (-1)) w m n w 0 0 0 ∧ ∀ c j, 77 ≤ c → fil (ob s8) 18 3 (-1) c j = s0 c j := by
    intro v s8 hq
    obtain ⟨y1, y2, y3, y4⟩ := hq
    rw [f11, e13, f13, v9] at y1
    have hx := y4 y1
    rw [f11, e13, f13, hrx] at hx
    have hk8 : ∀ i, 0 ≤ i → i < 6 → gok s8 (44 + 4 * i) := fun i i0 i6 => gok_cong (fun j => y2 _ _ (by omega)) (fun j => y2 _ _ (by omega)) (hk7 i i0 i6)
    obtain ⟨k1, k2, k3, k4⟩ := hut_K w0 w4 m0 m5 n2 n6 hp hg z79 hk8 hx h6 (fun c j hc => by rw [y2 c j (by omega), q2 c j (by omega), h1 c j (by omega) (by omega)])
    exact ⟨y1, k1, hk8, k2, k3, k4⟩
  apply t_L_makes_289 hU <;> intros
  all_goals first | decide | omega | skip
  apply t_X5_hut <;> intros
  all_goals first | omega | exact ht7 | exact q3 | skip
  · next g1 g2 g3 v s8 hq =>
    rw [(rest v s8 hq).1]
    decide
  · next g1 g2 g3 v s8 hq hv => exact (rest v s8 hq).2.1
  · next g1 g2 g3 v s8 hq hv i i0 i6 => exact (rest v s8 hq).2.2.1 i i0 i6
  · next g1 g2 g3 v s8 hq hv =>
    obtain ⟨k1, k2, k3, k4, k5, k6⟩ := rest v s8 hq
    have e3 : fil (ob s8) 18 3 (-1) 38 3 = n := by rw [filK_o (by omega), k4]
    rw [e3]
    apply t_L_makes_299 hU <;> intros
    all_goals first | omega | exact kk _ k5 k6
  · next g1 g2 g3 v s8 hq hv => exact absurd (rest v s8 hq).1 hv
