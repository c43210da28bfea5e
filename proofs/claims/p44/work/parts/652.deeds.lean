/-! deeds: the class's and the law's, both alike behind them -/
theorem rep_o {s t : m_St} {h : Int → Int} (q : ∀ c j, 38 ≤ c → c ≤ 65 → t c j = s c j) (h6 : h 0 ≤ 6) (hr : rep s h) : rep t h := by
  obtain ⟨r3, r6, r4, r7, r8, rg, rw_⟩ := hr
  unfold rep
  rw [q 38 3 (by decide) (by decide), q 38 6 (by decide) (by decide), q 38 4 (by decide) (by decide), q 38 7 (by decide) (by decide), q 38 8 (by decide) (by decide)]
  refine ⟨r3, r6, r4, r7, r8, fun i i0 i6 => gok_cong (fun j => q _ j (by omega) (by omega)) (fun j => q _ j (by omega) (by omega)) (rg i i0 i6), fun i i0 i1 => ?_⟩
  obtain ⟨b1, b2⟩ := rw_ i i0 i1
  rw [q (44 + 4 * i) 1 (by omega) (by omega)]
  refine ⟨b1, fun c c0 c1 => ?_⟩
  rw [q (44 + 4 * i + 1) c (by omega) (by omega)]
  exact b2 c c0 c1
theorem Kd_o {s t : m_St} {e f : Int} (q : ∀ c j, 38 ≤ c → c ≤ 65 → t c j = s c j) (h : Kd s e f) : Kd t e f := by
  unfold Kd syd at h ⊢
  rw [q 38 9 (by decide) (by decide)]
  rw [show (fun i : Int => if t 41 i < 8 then (1 : Int) else 0) = fun i => if s 41 i < 8 then 1 else 0 from funext fun i => by rw [q 41 i (by decide) (by decide)]]
  obtain ⟨d1, d2, d3, d4, d5, d6⟩ := h
  exact ⟨d1, d2, d3, d4, d5, fun i i0 i1 => by rw [q 41 i (by decide) (by decide)]; exact d6 i i0 i1⟩
section KD
variable {s : m_St} {w m n l e f a p q z : Int}
theorem hL_51 {n l w : Int} : hL s n l w 1 5 = s 79 0 + 1 := by rw [hL_5, if_neg (by decide)]
theorem hL_61 {n l w : Int} : hL s n l w 1 6 = s 79 1 + 1 := by rw [hL_6, if_neg (by decide)]
theorem K_send (h : K s w m n l e f a) (p0 : 0 ≤ p) (p1 : p < n) (q0 : 0 ≤ q) (q1 : q < n) : rep (m_upd (m_upd s 79 0 p) 79 1 q) (hL s n l w a) ∧ hok (hL s n l w a) ∧ (m_upd (m_upd s 79 0 p) 79 1 q) 38 9 = e ∧ K (acs (m_upd (m_upd s 79 0 p) 79 1 q) (9 + 6 * p + q)) w m n l (e + 1) f 1 ∧ (∀ j, acs (m_upd (m_upd s 79 0 p) 79 1 q) (9 + 6 * p + q) 78 j = s 78 j) ∧ acs (m_upd (m_upd s 79 0 p) 79 1 q) (9 + 6 * p + q) 79 0 = p ∧ acs (m_upd (m_upd s 79 0 p) 79 1 q) (9 + 6 * p + q) 79 1 = q := by
  obtain ⟨hr, hc, hd⟩ := h
  have hh := hc.hok
  obtain ⟨n2, n6, w0, w4, l0, lw, a01, u0, u1, v0, v1, m0, m5, g, pp, tr_⟩ := hc
  have o : ∀ c j, ¬ c = 79 → m_upd (m_upd s 79 0 p) 79 1 q c j = s c j := fun c j hc => by rw [upd_nc hc, upd_nc hc]
  have hr1 : rep (m_upd (m_upd s 79 0 p) 79 1 q) (hL s n l w a) := rep_o (fun c j c0 c1 => o c j (by omega)) (by rw [hL_0]; omega) hr
  have hd1 : Kd (m_upd (m_upd s 79 0 p) 79 1 q) e f := Kd_o (fun c j c0 c1 => o c j (by omega)) hd
  have hdo : dok (hL s n l w a) (9 + 6 * p + q) := ⟨by omega, by omega, fun z => by omega, fun _ => by rw [hL_0]; exact ⟨by omega, by omega⟩⟩
  obtain ⟨a1, a2, a3, a4⟩ := acs_r hr1 hh hdo
  have t79 : ∀ c j, 77 ≤ c → acs (m_upd (m_upd s 79 0 p) 79 1 q) (9 + 6 * p + q) c j = m_upd (m_upd s 79 0 p) 79 1 q c j := fun c j hc => a2 c j (by unfold hcell; omega) (by omega)
  have t0 : acs (m_upd (m_upd s 79 0 p) 79 1 q) (9 + 6 * p + q) 79 0 = p := by rw [t79 79 0 (by decide), upd_nj (by decide), upd_eq]
  have t1 : acs (m_upd (m_upd s 79 0 p) 79 1 q) (9 + 6 * p + q) 79 1 = q := by rw [t79 79 1 (by decide), upd_eq]
  have t8 : ∀ j, acs (m_upd (m_upd s 79 0 p) 79 1 q) (9 + 6 * p + q) 78 j = s 78 j := fun j => by rw [t79 78 j (by decide), o 78 j (by decide)]
  have t7 : ∀ j, acs (m_upd (m_upd s 79 0 p) 79 1 q) (9 + 6 * p + q) 77 j = s 77 j := fun j => by rw [t79 77 j (by decide), o 77 j (by decide)]
  have t5 : acs (m_upd (m_upd s 79 0 p) 79 1 q) (9 + 6 * p + q) 38 5 = s 38 5 := by rw [a2 38 5 (by unfold hcell; omega) (by omega), o 38 5 (by decide)]
  refine ⟨hr1, hh, hd1.1, ⟨?_, ⟨n2, n6, w0, w4, l0, lw, Or.inr rfl, by omega, by omega, by omega, by omega, m0, m5, gL_cong t8 g, pL_cong t7 pp, by rw [t5]; exact trL_cong t7 tr_⟩, ?_⟩, t8, t0, t1⟩
  · have e : hL (acs (m_upd (m_upd s 79 0 p) 79 1 q) (9 + 6 * p + q)) n l w 1 = stp ((m_upd (m_upd s 79 0 p) 79 1 q) 38 5) (hL s n l w a) (9 + 6 * p + q) := by
      funext j
      by_cases j5 : j = 5
      · subst j5
        rw [hL_5, if_neg (by decide), stp_d5 (by omega), t0]
        omega
      · by_cases j6 : j = 6
        · subst j6
          rw [hL_6, if_neg (by decide), stp_d6 (by omega), t1]
          omega
        · rw [stp_d (by omega) j5 j6]
          unfold hL
          rw [if_neg j5, if_neg j6, if_neg j5, if_neg j6, t8]
    rw [e]
    exact a1
  · have := Kd_acs hd1 a3 a4 (fun j hj => a2 41 j (by unfold hcell; omega) (fun z => hj z.2)) (by omega) (by omega)
    rw [if_neg (by omega)] at this
    exact this
theorem K_wood (h : K s w m n l e f a) : K (acs s 8) w m n w (e + 1) f a := by
  obtain ⟨hr, hc, hd⟩ := h
  have hh := hc.hok
  obtain ⟨n2, n6, w0, w4, l0, lw, a01, u0, u1, v0, v1, m0, m5, g, pp, tr_⟩ := hc
  have hdo : dok (hL s n l w a) 8 := ⟨by omega, by omega, fun z => by omega, fun z => by omega⟩
  obtain ⟨a1, a2, a3, a4⟩ := acs_r hr hh hdo
  have t79 : ∀ c j, 77 ≤ c → acs s 8 c j = s c j := fun c j hc => a2 c j (by unfold hcell; omega) (by omega)
  have t5 : acs s 8 38 5 = s 38 5 := a2 38 5 (by unfold hcell; omega) (by omega)
  refine ⟨?_, ⟨n2, n6, w0, w4, w0, by omega, a01, by rw [t79 79 0 (by decide)]; exact u0, by rw [t79 79 0 (by decide)]; exact u1, by rw [t79 79 1 (by decide)]; exact v0, by rw [t79 79 1 (by decide)]; exact v1, m0, m5, gL_cong (fun j => t79 78 j (by decide)) g, pL_cong (fun j => t79 77 j (by decide)) pp, by rw [t5]; exact trL_cong (fun j => t79 77 j (by decide)) tr_⟩, ?_⟩
  · have e : hL (acs s 8) n w w a = stp (s 38 5) (hL s n l w a) 8 := by
      funext j
      rw [stp_8]
      by_cases j1 : j = 1
      · subst j1
        rw [hL_1, if_pos rfl, hL_2]
      · rw [if_neg j1]
        unfold hL
        rw [if_neg j1, if_neg j1, t79 79 0 (by decide), t79 79 1 (by decide), t79 78 _ (by decide)]
    rw [e]
    exact a1
  · have := Kd_acs hd a3 a4 (fun j hj => a2 41 j (by unfold hcell; omega) (fun z => hj z.2)) (by omega) (by omega)
    rw [if_neg (by omega)] at this
    exact this
theorem who_r (h : K s w m n l e f 1) (z0 : 0 ≤ z) (z8 : z < 8) : hrr (hL s n l w 1) z = s 79 (1 - z / 4) ∧ 0 ≤ s 79 (1 - z / 4) ∧ s 79 (1 - z / 4) < n := by
  obtain ⟨hr, hc, hd⟩ := h
  obtain ⟨n2, n6, w0, w4, l0, lw, a01, u0, u1, v0, v1, m0, m5, g, pp, tr_⟩ := hc
  unfold hrr
  rw [hL_51, hL_61]
  by_cases h4 : z < 4
  · rw [if_pos h4, show 1 - z / 4 = 1 by omega]
    exact ⟨by omega, v0, v1⟩
  · rw [if_neg h4, show 1 - z / 4 = 0 by omega]
    exact ⟨by omega, u0, u1⟩
theorem cn_eq (h : K s w m n l e f 1) (z0 : 0 ≤ z) (z8 : z < 8) : cnH (hL s n l w 1) z = 0 ↔ cnA s z = 0 := by
  obtain ⟨hr, hc, hd⟩ := h
  obtain ⟨n2, n6, w0, w4, l0, lw, a01, u0, u1, v0, v1, m0, m5, g, pp, tr_⟩ := hc
  have e : cnH (hL s n l w 1) z = iAnd (iShr (hA s (s 79 (z / 4))) (z % 4)) 1 := by
    unfold cnH
    rw [hL_51, hL_61]
    by_cases h4 : z < 4
    · rw [if_pos h4, show z / 4 = 0 by omega, hL_hld (by omega), show s 79 0 + 1 - 1 = s 79 0 by omega]
    · rw [if_neg h4, show z / 4 = 1 by omega, hL_hld (by omega), show s 79 1 + 1 - 1 = s 79 1 by omega]
  rw [e]
  unfold cnA
  have b := bit_of (a := hA s (s 79 (z / 4))) (j := z % 4) (by omega) (by omega)
  have hb : iAnd (iShr (hA s (s 79 (z / 4))) (z % 4)) 1 = 0 ∨ iAnd (iShr (hA s (s 79 (z / 4))) (z % 4)) 1 = 1 := by
    rw [b]
    cases bt (hA s (s 79 (z / 4))) (z % 4).toNat
    · exact Or.inl rfl
    · exact Or.inr rfl
  split <;> omega
theorem K_say (h : K s w m n l e f 1) (z0 : 0 ≤ z) (z8 : z < 8) (l1 : 0 < l) : rep (sgL s z) (hL s n l w 1) ∧ hok (hL s n l w 1) ∧ (sgL s z) 38 9 = e ∧ K (acs (sgL s z) z) w m n (l - 1) (e + 1) (f + 1) 1 ∧ acs (sgL s z) z 78 (5 * acs (sgL s z) z 79 (1 - z / 4) + 1 + z % 4) = stp ((sgL s z) 38 5) (hL s n l w 1) z (9 + 5 * hrr (hL s n l w 1) z + z % 4) := by
  obtain ⟨wr1, wr2, wr3⟩ := who_r h z0 z8
  obtain ⟨hr, hc, hd⟩ := h
  have hh := hc.hok
  obtain ⟨n2, n6, w0, w4, l0, lw, a01, u0, u1, v0, v1, m0, m5, g, pp, tr_⟩ := hc
  have o : ∀ c j, ¬ c = 78 → sgL s z c j = s c j := fun c j hc => upd_nc hc
  have hr1 : rep (sgL s z) (hL s n l w 1) := rep_o (fun c j c0 c1 => o c j (by omega)) (by rw [hL_0]; omega) hr
  have hd1 : Kd (sgL s z) e f := Kd_o (fun c j c0 c1 => o c j (by omega)) hd
  have hdo : dok (hL s n l w 1) z := ⟨by omega, by omega, fun _ => by rw [hL_5, hL_1, if_neg (by decide)]; exact ⟨by omega, by omega⟩, fun z => by omega⟩
  obtain ⟨a1, a2, a3, a4⟩ := acs_r hr1 hh hdo
  have t79 : ∀ c j, 77 ≤ c → acs (sgL s z) z c j = sgL s z c j := fun c j hc => a2 c j (by unfold hcell; omega) (by omega)
  have t9 : ∀ j, acs (sgL s z) z 79 j = s 79 j := fun j => by rw [t79 79 j (by decide), o 79 j (by decide)]
  have t7 : ∀ j, acs (sgL s z) z 77 j = s 77 j := fun j => by rw [t79 77 j (by decide), o 77 j (by decide)]
  have t5 : acs (sgL s z) z 38 5 = s 38 5 := by rw [a2 38 5 (by unfold hcell; omega) (by omega), o 38 5 (by decide)]
  have ehl : hld (hL s n l w 1) (s 79 (1 - z / 4)) = hA s (s 79 (1 - z / 4)) := hL_hld wr2
  -- the one weight that changes
  generalize hV : cl (s 78 (5 * s 79 (1 - z / 4) + 1 + z % 4) + mv (s 78 (5 * s 79 (1 - z / 4))) (hA s (s 79 (1 - z / 4))) (s 38 5) (z % 4)) = V
  have hVr : 0 ≤ V ∧ V ≤ 20 := by rw [← hV]; exact cl_r _
  have s8 : ∀ j, sgL s z 78 j = if j = 5 * s 79 (1 - z / 4) + 1 + z % 4 then V else s 78 j := fun j => by
    unfold sgL
    rw [hV]
    unfold m_upd
    by_cases hj : j = 5 * s 79 (1 - z / 4) + 1 + z % 4
    · rw [if_pos ⟨rfl, hj⟩, if_pos hj]
    · rw [if_neg (fun q => hj q.2), if_neg hj]
  have t8 : ∀ j, acs (sgL s z) z 78 j = if j = 5 * s 79 (1 - z / 4) + 1 + z % 4 then V else s 78 j := fun j => by rw [t79 78 j (by decide), s8]
  have est : stp ((sgL s z) 38 5) (hL s n l w 1) z = setf (setf (hL s n l w 1) (9 + 5 * s 79 (1 - z / 4) + z % 4) V) 1 (l - 1) := by
    unfold stp
    rw [if_pos z8, wr1, ehl, hL_1, o 38 5 (by decide), hL_8 (j := 9 + 5 * s 79 (1 - z / 4) + z % 4) (by omega), hL_8 (j := 8 + 5 * s 79 (1 - z / 4)) (by omega), show 9 + 5 * s 79 (1 - z / 4) + z % 4 - 8 = 5 * s 79 (1 - z / 4) + 1 + z % 4 by omega, show 8 + 5 * s 79 (1 - z / 4) - 8 = 5 * s 79 (1 - z / 4) by omega, hV]
  refine ⟨hr1, hh, hd1.1, ⟨?_, ⟨n2, n6, w0, w4, by omega, by omega, Or.inr rfl, by rw [t9]; exact u0, by rw [t9]; exact u1, by rw [t9]; exact v0, by rw [t9]; exact v1, m0, m5, fun i i0 i1 => ?_, pL_cong t7 pp, by rw [t5]; exact trL_cong t7 tr_⟩, ?_⟩, ?_⟩
  · have e : hL (acs (sgL s z) z) n (l - 1) w 1 = stp ((sgL s z) 38 5) (hL s n l w 1) z := by
      rw [est]
      funext j
      unfold setf
      try dsimp only
      by_cases j1 : j = 1
      · subst j1
        rw [hL_1, if_pos rfl]
      · rw [if_neg j1]
        by_cases j8 : 8 ≤ j
        · rw [hL_8 j8, hL_8 j8, t8]
          by_cases hj : j = 9 + 5 * s 79 (1 - z / 4) + z % 4
          · rw [if_pos hj, if_pos (by omega)]
          · rw [if_neg hj, if_neg (by omega)]
        · rw [if_neg (by omega)]
          unfold hL
          rw [if_neg j1, if_neg j1, if_neg j8, if_neg j8, t9, t9]
    rw [e]
    exact a1
  · obtain ⟨b1, b2, b3⟩ := g i i0 i1
    rw [t8, if_neg (by omega)]
    refine ⟨b1, b2, fun c c0 c1 => ?_⟩
    rw [t8]
    have := b3 c c0 c1
    split <;> omega
  · have := Kd_acs hd1 a3 a4 (fun j hj => a2 41 j (by unfold hcell; omega) (fun z => hj z.2)) z0 (by omega)
    rw [if_pos z8] at this
    exact this
  · rw [est, wr1, t9, t8, if_pos rfl]
    unfold setf
    try dsimp only
    rw [if_neg (by omega), if_pos rfl]
end KD
