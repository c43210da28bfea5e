/-! the class's calls, by the hut as a row of numbers -/
def cnH (h : Int → Int) (z : Int) : Int := iAnd (iShr (hld h (if z < 4 then h 5 - 1 else h 6 - 1)) (z % 4)) 1
theorem stp_d {R : Int} {h : Int → Int} {d j : Int} (h9 : 9 ≤ d) (j5 : ¬ j = 5) (j6 : ¬ j = 6) : stp R h d j = h j := by
  unfold stp
  rw [if_neg (by omega), if_neg (by omega)]
  unfold setf
  try dsimp only
  rw [if_neg j6, if_neg j5]
theorem stp_d5 {R : Int} {h : Int → Int} {d : Int} (h9 : 9 ≤ d) : stp R h d 5 = (d - 9) / 6 + 1 := by
  unfold stp
  rw [if_neg (by omega), if_neg (by omega)]
  unfold setf
  try dsimp only
  rw [if_neg (by decide), if_pos rfl]
theorem stp_d6 {R : Int} {h : Int → Int} {d : Int} (h9 : 9 ≤ d) : stp R h d 6 = (d - 9) % 6 + 1 := by
  unfold stp
  rw [if_neg (by omega), if_neg (by omega)]
  unfold setf
  exact if_pos rfl
theorem stp_8 {R : Int} {h : Int → Int} {j : Int} : stp R h 8 j = if j = 1 then h 2 else h j := by
  unfold stp
  rw [if_neg (by decide), if_pos rfl]
  rfl
theorem hld_cong {h h' : Int → Int} {i : Int} (e : ∀ j, 8 + 5 * i ≤ j → j < 13 + 5 * i → h' j = h j) : hld h' i = hld h i := by
  unfold hld
  rw [e (8 + 5 * i) (by omega) (by omega)]
  exact hset_cong fun c c0 c1 => e (9 + 5 * i + c) (by omega) (by omega)
section OPS
variable {X : m_X} {d : Nat} {s : m_St} {P : Option Value → m_St → Prop} {h : Int → Int} {p q z i c : Int}
theorem rep_up (hr : rep s h) (hh : hok h) (h5 : ¬ h 5 = 0) : upk s := by
  obtain ⟨r3, r6, r4, r7, r8, rg, rw_⟩ := hr
  obtain ⟨k1, k2, k3, k4, k5, k6, k7, k8, k9, k10, k11, k12⟩ := hh
  exact ⟨by omega, by omega, by omega, by omega, rg⟩
theorem c_send (hr : rep s h) (hh : hok h) (n9 : 0 ≤ s 38 9) (n4 : s 38 9 < 40) (p0 : 0 ≤ p) (p1 : p < h 0) (q0 : 0 ≤ q) (q1 : q < h 0) (k1 : p = q → P (some (vI (-1))) s) (k2 : ¬ p = q → h 5 = p + 1 → h 6 = q + 1 → P (some (vI (-4))) s)
    (k3 : ¬ p = q → ¬ (h 5 = p + 1 ∧ h 6 = q + 1) → P (some (vI (iAnd (hld h p) (hld h q)))) (acs s (9 + 6 * p + q))) : Cl X (d + 5) 79 [vR 0, vI p, vI q] s P := by
  have hr2 := hr
  obtain ⟨r3, r6, r4, r7, r8, rg, rw_⟩ := hr2
  have hh2 := hh
  obtain ⟨g1, g2, g3, g4, g5, g6, g7, g8, g9, g10, g11, g12⟩ := hh2
  have hd : dok h (9 + 6 * p + q) := ⟨by omega, by omega, fun z => by omega, fun _ => ⟨by omega, by omega⟩⟩
  obtain ⟨a1, a2, a3, a4⟩ := acs_r hr hh hd
  have ho := stp_ok (R := s 38 5) hh hd
  have e5 := stp_d5 (R := s 38 5) (h := h) (d := 9 + 6 * p + q) (by omega)
  have e6 := stp_d6 (R := s 38 5) (h := h) (d := 9 + 6 * p + q) (by omega)
  have e50 : ¬ stp (s 38 5) h (9 + 6 * p + q) 5 = 0 := by omega
  have hu := rep_up a1 ho e50
  have hs : shd (acs s (9 + 6 * p + q)) = iAnd (hld h p) (hld h q) := by
    unfold shd
    have e7 : acs s (9 + 6 * p + q) 38 7 = p := by rw [a1.2.2.2.1, e5]; omega
    have e8 : acs s (9 + 6 * p + q) 38 8 = q := by rw [a1.2.2.2.2.1, e6]; omega
    have z0 : stp (s 38 5) h (9 + 6 * p + q) 0 = h 0 := stp_d (by omega) (by decide) (by decide)
    rw [e7, e8, rep_h a1 ho p0 (by omega), rep_h a1 ho q0 (by omega), hld_cong (i := p) (fun j j0 j1 => stp_d (by omega) (by omega) (by omega)), hld_cong (i := q) (fun j j0 j1 => stp_d (by omega) (by omega) (by omega))]
  have k3' : ¬ p = q → ¬ (h 5 = p + 1 ∧ h 6 = q + 1) → P (some (vI (shd (acs s (9 + 6 * p + q))))) (acs s (9 + 6 * p + q)) := by rw [hs]; exact k3
  clear k3 hs
  apply t_X5_send <;> intros
  all_goals first | (exact rg _ (by assumption) (by assumption)) | exact hu | omega | (refine k1 ?_; omega) | (refine k2 ?_ ?_ ?_ <;> omega) | (refine k3' ?_ ?_ <;> omega)
theorem c_say (hr : rep s h) (hh : hok h) (h5 : ¬ h 5 = 0) (n9 : 0 ≤ s 38 9) (n4 : s 38 9 < 40) (z0 : 0 ≤ z) (z8 : z < 8) (k1 : cnH h z = 0 → P (some (vI (-4))) s) (k2 : ¬ cnH h z = 0 → h 1 ≤ 0 → P (some (vI (-6))) s)
    (k3 : ¬ cnH h z = 0 → 0 < h 1 → P (some (vI (stp (s 38 5) h z (9 + 5 * hrr h z + z % 4)))) (acs s z)) : Cl X (d + 5) 85 [vR 0, vI z] s P := by
  have hu := rep_up hr hh h5
  have hr2 := hr
  obtain ⟨r3, r6, r4, r7, r8, rg, rw_⟩ := hr2
  have hh2 := hh
  obtain ⟨g1, g2, g3, g4, g5, g6, g7, g8, g9, g10, g11, g12⟩ := hh2
  have hc : csh s z = 0 ↔ cnH h z = 0 := by
    unfold csh cnH
    rw [if_neg (by omega)]
    by_cases h4 : z < 4
    · rw [if_pos h4, if_pos h4, rep_h hr hh (by omega) (by omega), r7]
      split <;> omega
    · rw [if_neg h4, if_neg h4, rep_h hr hh (by omega) (by omega), r8]
      split <;> omega
  by_cases hcz : cnH h z = 0
  · have hc0 := hc.mpr hcz
    apply t_X5_say <;> intros
    all_goals first | exact Or.inl hu | exact hu | exact k1 hcz | omega
  · have hc1 : ¬ csh s z = 0 := fun q => hcz (hc.mp q)
    by_cases hw : 0 < h 1
    · have hd : dok h z := ⟨z0, by omega, fun _ => ⟨by omega, by omega⟩, fun z9 => by omega⟩
      obtain ⟨a1, a2, a3, a4⟩ := acs_r hr hh hd
      have hi := hrr_r hh hd z8
      have s5 : stp (s 38 5) h z 5 = h 5 := by
        unfold stp
        rw [if_pos z8]
        unfold setf
        try dsimp only
        rw [if_neg (by decide), if_neg (by omega)]
      have s6 : stp (s 38 5) h z 6 = h 6 := by
        unfold stp
        rw [if_pos z8]
        unfold setf
        try dsimp only
        rw [if_neg (by decide), if_neg (by omega)]
      have s0 : stp (s 38 5) h z 0 = h 0 := stp_k hh hd (Or.inl rfl)
      obtain ⟨q0, q1, q2, q3, q4, q5, q6⟩ := a1
      have fin : ∀ v, v = stp (s 38 5) h z (9 + 5 * hrr h z + z % 4) → P (some (vI v)) (acs s z) := fun v hv => by rw [hv]; exact k3 hcz hw
      apply t_X5_say <;> intros
      all_goals first | exact Or.inl hu | exact hu | (exact rg _ (by assumption) (by assumption)) | omega | skip
      · refine fin _ ?_
        rw [q3, s5, (q6 (h 5 - 1) (by omega) (by omega)).2 (z % 4) (by omega) (by omega)]
        unfold hrr
        rw [if_neg (by omega)]
      · refine fin _ ?_
        rw [q4, s6, (q6 (h 6 - 1) (by omega) (by omega)).2 (z % 4) (by omega) (by omega)]
        unfold hrr
        rw [if_pos (by omega)]
    · apply t_X5_say <;> intros
      all_goals first | exact Or.inl hu | exact hu | (exact k2 hcz (by omega)) | omega
theorem c_wood (hr : rep s h) (hh : hok h) (h0 : ¬ h 0 = 0) (n9 : 0 ≤ s 38 9) (n4 : s 38 9 < 40) (k1 : h 1 = h 2 → P (some (vI (-4))) s) (k2 : ¬ h 1 = h 2 → P (some (vI (h 1))) (acs s 8)) : Cl X (d + 5) 89 [vR 0] s P := by
  obtain ⟨r3, r6, r4, r7, r8, rg, rw_⟩ := hr
  obtain ⟨g1, g2, g3, g4, g5, g6, g7, g8, g9, g10, g11, g12⟩ := hh
  rw [← r6] at k2
  apply t_X5_wood <;> intros
  all_goals first | (exact rg _ (by assumption) (by assumption)) | omega | (refine k1 ?_; omega) | (refine k2 ?_; omega)
theorem c_both (hr : rep s h) (hh : hok h) (k1 : h 5 = 0 → P (some (vI (-4))) s) (k2 : ¬ h 5 = 0 → ∀ t, (∀ c j, uK c → t c j = s c j) → P (some (vI (iAnd (hld h (h 5 - 1)) (hld h (h 6 - 1))))) t) : Cl X (d + 6) 97 [vR 0] s P := by
  have hr2 := hr
  obtain ⟨r3, r6, r4, r7, r8, rg, rw_⟩ := hr2
  have hh2 := hh
  obtain ⟨g1, g2, g3, g4, g5, g6, g7, g8, g9, g10, g11, g12⟩ := hh2
  by_cases h5 : h 5 = 0
  · apply t_X5_both <;> intros
    all_goals first | exact k1 h5 | omega
  · have hu := rep_up hr hh h5
    have hu2 := hu
    obtain ⟨u1, u2, u3, u4, u5⟩ := hu2
    have e67 : tka s 67 2 = s (44 + 4 * s 38 7) 2 := by
      unfold tka btw
      rw [upd_nc (by decide), lk_o (by decide) (by decide)]
      unfold lk
      rw [if_neg (by omega), if_neg (by omega), if_pos ⟨rfl, rfl⟩]
      exact (u5 _ u1 u2).2.2.1.symm
    have e69 : tka s 69 2 = s (44 + 4 * s 38 8) 2 := by
      unfold tka btw
      rw [upd_nc (by decide)]
      have e2 : lk s 67 (44 + 4 * s 38 7) (s (44 + 4 * s 38 7) 1) (44 + 4 * s 38 8 + 1) = s (44 + 4 * s 38 8 + 1) := funext fun j => lk_o (by omega) (by omega)
      have e1 : lk s 67 (44 + 4 * s 38 7) (s (44 + 4 * s 38 7) 1) (44 + 4 * s 38 8) 1 = s (44 + 4 * s 38 8) 1 := lk_o (by omega) (by omega)
      show lk (lk s 67 (44 + 4 * s 38 7) (s (44 + 4 * s 38 7) 1)) 69 (44 + 4 * s 38 8) (s (44 + 4 * s 38 8) 1) 69 2 = _
      unfold lk at e2 ⊢
      rw [if_neg (by omega), if_neg (by omega), if_pos ⟨rfl, rfl⟩, e2]
      exact (u5 _ u3 u4).2.2.1.symm
    apply t_X5_both <;> intros
    all_goals first | exact hu | omega | skip
    rw [e67, e69]
    have x7 : s (44 + 4 * s 38 7) 2 = hld h (h 5 - 1) := by rw [rep_h hr hh u1 (by omega), r7]
    have x8 : s (44 + 4 * s 38 8) 2 = hld h (h 6 - 1) := by rw [rep_h hr hh u3 (by omega), r8]
    rw [x7, x8]
    refine k2 h5 _ (fun c j hc => ?_)
    unfold uK at hc
    rw [upd_nc (by omega)]
    unfold tka btw
    rw [upd_nc (by omega), lk_o (by omega) (by omega), lk_o (by omega) (by omega)]
theorem c_guest5 (hr : rep s h) (hh : hok h) (i0 : 0 ≤ i) (i1 : i < h 0) (k : P (some (vI 1)) (m_upd s 0 9 (hld h i))) : Cl X (d + 3) 65 [vR 0, vI i, vI 5] s P := by
  rw [← rep_h hr hh i0 i1] at k
  obtain ⟨r3, r6, r4, r7, r8, rg, rw_⟩ := hr
  have := hh.2.1
  apply t_X5_guest <;> intros
  all_goals first | exact k | omega
theorem c_guest6 (hr : rep s h) (hh : hok h) (i0 : 0 ≤ i) (i1 : i < h 0) (k : P (some (vI 1)) (m_upd s 0 9 (if h 5 = i + 1 then 1 else if h 6 = i + 1 then 2 else 0))) : Cl X (d + 3) 65 [vR 0, vI i, vI 6] s P := by
  obtain ⟨r3, r6, r4, r7, r8, rg, rw_⟩ := hr
  have h06 := hh.2.1
  obtain ⟨g1, g2, g3, g4, g5, g6, g7, g8, g9, g10, g11, g12⟩ := hh
  have fin : ∀ v, v = (if h 5 = i + 1 then 1 else if h 6 = i + 1 then 2 else (0 : Int)) → P (some (vI 1)) (m_upd s 0 9 v) := fun v hv => by rw [hv]; exact k
  clear k
  apply t_X5_guest <;> intros
  all_goals first | omega | (refine fin _ ?_; omega)
theorem c_guestw (hr : rep s h) (hh : hok h) (i0 : 0 ≤ i) (i1 : i < h 0) (c0 : 0 ≤ c) (c4 : c < 4) (k : P (some (vI 1)) (m_upd s 0 9 (h (9 + 5 * i + c)))) : Cl X (d + 3) 65 [vR 0, vI i, vI (1 + c)] s P := by
  obtain ⟨r3, r6, r4, r7, r8, rg, rw_⟩ := hr
  have h06 := hh.2.1
  rw [← (rw_ i i0 i1).2 c c0 c4] at k
  apply t_X5_guest <;> intros
  all_goals first | omega | skip
  rw [show 1 + c - 1 = c by omega]
  exact k
theorem c_asked (k : P (some (vI (s 0 9))) s) : Cl X d 144 [vR 0] s P := t_X5_asked k
theorem c_count1 (k : P (some (vI (s 38 6))) s) : Cl X (d + 4) 147 [vR 0, vI 1] s P := by
  apply t_X5_count <;> intros
  all_goals first | omega | exact k
theorem c_count2 (k : P (some (vI (s 38 9))) s) : Cl X (d + 4) 147 [vR 0, vI 2] s P := by
  apply t_X5_count <;> intros
  all_goals first | omega | exact k
theorem c_count3 (n0 : 0 ≤ s 38 9) (n4 : s 38 9 ≤ 40) (hd : ∀ i, 0 ≤ i → i < s 38 9 → 0 ≤ s 41 i ∧ s 41 i < 45) (k : P (some (vI (syd s))) s) : Cl X (d + 4) 147 [vR 0, vI 3] s P := by
  apply t_X5_count <;> intros
  all_goals first | omega | exact k | skip
  next g1 i i0 i1 =>
  have := hd i i0 i1
  omega
theorem c_count4 (r7 : inR (s 38 7)) (k1 : s 38 7 = -1 → P (some (vI 0)) s) (k2 : ¬ s 38 7 = -1 → P (some (vI (10 * s 38 7 + s 38 8))) s) : Cl X (d + 4) 147 [vR 0, vI 4] s P := by
  apply t_X5_count <;> intros
  all_goals first | omega | (exact k1 (by assumption)) | (exact k2 (by assumption)) | exact r7
end OPS
