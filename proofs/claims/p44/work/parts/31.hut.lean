/-! the hut as a row of numbers; what is done anew -/
def setf (h : Int → Int) (k v : Int) : Int → Int := fun j => if j = k then v else h j
def hld (h : Int → Int) (i : Int) : Int := hset (fun c => h (9 + 5 * i + c)) (hf (h (8 + 5 * i)))
/-- who hears a saying -/
def hrr (h : Int → Int) (d : Int) : Int := if d < 4 then h 6 - 1 else h 5 - 1
def stp (R : Int) (h : Int → Int) (d : Int) : Int → Int :=
  if d < 8 then setf (setf h (9 + 5 * hrr h d + d % 4) (cl (h (9 + 5 * hrr h d + d % 4) + mv (h (8 + 5 * hrr h d)) (hld h (hrr h d)) R (d % 4)))) 1 (h 1 - 1)
  else if d = 8 then setf h 1 (h 2) else setf (setf h 5 ((d - 9) / 6 + 1)) 6 ((d - 9) % 6 + 1)
def hst (R : Int) (b : Int → Int) (ds : Int → Int) : Nat → Int → Int
  | 0 => b
  | k + 1 => stp R (hst R b ds k) (ds k)
/-- a hut in order -/
def hok (h : Int → Int) : Prop := 0 ≤ h 0 ∧ h 0 ≤ 6 ∧ 0 ≤ h 1 ∧ h 1 ≤ 40 ∧ 0 ≤ h 2 ∧ h 2 ≤ 40 ∧ 0 ≤ h 5 ∧ h 5 ≤ h 0 ∧ 0 ≤ h 6 ∧ h 6 ≤ h 0 ∧ (h 5 = 0 ↔ h 6 = 0) ∧ ∀ i, 0 ≤ i → i < h 0 → 0 ≤ h (8 + 5 * i) ∧ h (8 + 5 * i) < 6 ∧ ∀ c, 0 ≤ c → c < 4 → 0 ≤ h (9 + 5 * i + c) ∧ h (9 + 5 * i + c) ≤ 20
/-- a deed that can be done -/
def dok (h : Int → Int) (d : Int) : Prop := 0 ≤ d ∧ d < 45 ∧ (d < 8 → 1 ≤ h 5 ∧ 1 ≤ h 1) ∧ (9 ≤ d → (d - 9) / 6 < h 0 ∧ (d - 9) % 6 < h 0)
theorem hrr_r {h : Int → Int} {d : Int} (hh : hok h) (hd : dok h d) (h8 : d < 8) : 0 ≤ hrr h d ∧ hrr h d < h 0 := by
  obtain ⟨h0, h1, h2, h3, h4, h5, h6, h7, h8', h9, h10, -⟩ := hh
  have := hd.2.2.1 h8
  unfold hrr
  split <;> omega
theorem stp_k {R : Int} {h : Int → Int} {d j : Int} (hh : hok h) (hd : dok h d) (hj : j = 0 ∨ j = 2 ∨ j = 7 ∨ (8 ≤ j ∧ (j - 8) % 5 = 0)) : stp R h d j = h j := by
  have hr := hrr_r hh hd
  have n1 : ¬ j = 1 := by omega
  have n5 : ¬ j = 5 := by omega
  have n6 : ¬ j = 6 := by omega
  unfold stp setf
  split
  · next hd8 =>
    have := hr hd8
    have n9 : ¬ j = 9 + 5 * hrr h d + d % 4 := by omega
    try dsimp only
    rw [if_neg n1, if_neg n9]
  · split
    · try dsimp only
      rw [if_neg n1]
    · try dsimp only
      rw [if_neg n6, if_neg n5]
theorem stp_ok {R : Int} {h : Int → Int} {d : Int} (hh : hok h) (hd : dok h d) : hok (stp R h d) := by
  have k0 := stp_k (R := R) (j := 0) hh hd (by omega)
  have k2 := stp_k (R := R) (j := 2) hh hd (by omega)
  obtain ⟨h0, h1, h2, h3, h4, h5, h6, h7, h8, h9, h10, h11⟩ := id hh
  obtain ⟨d0, d1, d2, d3⟩ := id hd
  have e1 : 0 ≤ stp R h d 1 ∧ stp R h d 1 ≤ 40 := by
    unfold stp setf
    split
    · have := d2 (by assumption)
      try dsimp only
      rw [if_pos rfl]
      omega
    · split
      · try dsimp only
        rw [if_pos rfl]
        omega
      · try dsimp only
        rw [if_neg (by omega), if_neg (by omega)]
        omega
  have e5 : (0 ≤ stp R h d 5 ∧ stp R h d 5 ≤ h 0) ∧ (0 ≤ stp R h d 6 ∧ stp R h d 6 ≤ h 0) ∧ (stp R h d 5 = 0 ↔ stp R h d 6 = 0) := by
    unfold stp setf
    split
    · next hd8 =>
      have := hrr_r hh hd hd8
      try dsimp only
      rw [if_neg (by omega), if_neg (by omega), if_neg (by omega), if_neg (by omega)]
      exact ⟨⟨h6, h7⟩, ⟨h8, h9⟩, h10⟩
    · split
      · try dsimp only
        rw [if_neg (by omega), if_neg (by omega)]
        exact ⟨⟨h6, h7⟩, ⟨h8, h9⟩, h10⟩
      · try dsimp only
        rw [if_neg (by omega), if_pos rfl, if_pos rfl]
        have := d3 (by omega)
        omega
  refine ⟨by omega, by omega, e1.1, e1.2, by omega, by omega, e5.1.1, by omega, e5.2.1.1, by omega, e5.2.2, fun i hi0 hi1 => ?_⟩
  rw [k0] at hi1
  obtain ⟨q1, q2, q3⟩ := h11 i hi0 hi1
  rw [stp_k (j := 8 + 5 * i) hh hd (by omega)]
  refine ⟨q1, q2, fun c hc0 hc1 => ?_⟩
  have q4 := q3 c hc0 hc1
  unfold stp setf
  split
  · try dsimp only
    rw [if_neg (by omega)]
    split
    · exact cl_r _
    · exact q4
  · split
    · try dsimp only
      rw [if_neg (by omega)]
      exact q4
    · try dsimp only
      rw [if_neg (by omega), if_neg (by omega)]
      exact q4
theorem hst_ok {R : Int} {b ds : Int → Int} (hb : hok b) {n : Nat} (hd : ∀ k : Nat, k < n → dok (hst R b ds k) (ds k)) : ∀ k : Nat, k ≤ n → hok (hst R b ds k) := by
  intro k
  induction k with
  | zero => intro _; exact hb
  | succ k ih => intro hk; exact stp_ok (ih (by omega)) (hd k (by omega))
theorem hst_k {R : Int} {b ds : Int → Int} (hb : hok b) {n : Nat} (hd : ∀ k : Nat, k < n → dok (hst R b ds k) (ds k)) {j : Int} (hj : j = 0 ∨ j = 2 ∨ j = 7 ∨ (8 ≤ j ∧ (j - 8) % 5 = 0)) : ∀ k : Nat, k ≤ n → hst R b ds k j = b j := by
  intro k
  induction k with
  | zero => intro _; rfl
  | succ k ih =>
    intro hk
    show stp R (hst R b ds k) (ds k) j = _
    rw [stp_k (hst_ok hb hd k (by omega)) (hd k (by omega)) hj]
    exact ih (by omega)
/-- the cells are the hut h -/
def rep (s : m_St) (h : Int → Int) : Prop := s 38 3 = h 0 ∧ s 38 6 = h 1 ∧ s 38 4 = h 2 ∧ s 38 7 = h 5 - 1 ∧ s 38 8 = h 6 - 1 ∧ (∀ i, 0 ≤ i → i < 6 → gok s (44 + 4 * i)) ∧ ∀ i, 0 ≤ i → i < h 0 → s (44 + 4 * i) 1 = h (8 + 5 * i) ∧ ∀ c, 0 ≤ c → c < 4 → s (44 + 4 * i + 1) c = h (9 + 5 * i + c)
theorem rep_h {s : m_St} {h : Int → Int} (hr : rep s h) (hh : hok h) {i : Int} (h0 : 0 ≤ i) (h1 : i < h 0) : s (44 + 4 * i) 2 = hld h i := by
  obtain ⟨-, -, -, -, -, r1, r2⟩ := hr
  have h6 := hh.2.1
  rw [(r1 i h0 (by omega)).2.2.1, (r2 i h0 h1).1]
  exact hset_cong fun c c0 c1 => (r2 i h0 h1).2 c c0 c1
theorem gok_cong {s t : m_St} {g : Int} (h1 : ∀ j, t g j = s g j) (h2 : ∀ j, t (g + 1) j = s (g + 1) j) (h : gok s g) : gok t g := by
  unfold gok at h ⊢
  rw [h1, h1, hset_cong (f := t (g + 1)) (f' := s (g + 1)) fun c _ _ => h2 c]
  refine ⟨h.1, h.2.1, h.2.2.1, fun c h0 h1 => ?_⟩
  rw [h2]
  exact h.2.2.2 c h0 h1
theorem rep_pf {s : m_St} {h : Int → Int} {d : Int} (hr : rep s h) (hh : hok h) (hd : dok h d) : rep (pf s d) (stp (s 38 5) h d) := by
  have hst0 := stp_k (R := s 38 5) (j := 0) hh hd (by omega)
  have hst2 := stp_k (R := s 38 5) (j := 2) hh hd (by omega)
  obtain ⟨r3, r6, r4, r7, r8, rg, rw_⟩ := id hr
  obtain ⟨d0, d1, d2, d3⟩ := id hd
  by_cases h8 : d < 8
  · have hi := hrr_r hh hd h8
    have h06 := hh.2.1
    have eg : (if d < 4 then s 38 8 else s 38 7) = hrr h d := by unfold hrr; split <;> omega
    have epf : pf s d = m_upd (wg s (44 + 4 * hrr h d) (d % 4) (s (44 + 4 * hrr h d + 1) (d % 4) + mv (s (44 + 4 * hrr h d) 1) (s (44 + 4 * hrr h d) 2) (s 38 5) (d % 4))) 38 6 (s 38 6 - 1) := by
      unfold pf
      rw [if_pos h8, eg]
    have est : stp (s 38 5) h d = setf (setf h (9 + 5 * hrr h d + d % 4) (cl (h (9 + 5 * hrr h d + d % 4) + mv (h (8 + 5 * hrr h d)) (hld h (hrr h d)) (s 38 5) (d % 4)))) 1 (h 1 - 1) := if_pos h8
    have o38 : ∀ j, pf s d 38 j = if j = 6 then s 38 6 - 1 else s 38 j := fun j => by
      rw [epf]
      unfold m_upd
      by_cases hj : j = 6
      · rw [if_pos ⟨rfl, hj⟩, if_pos hj]
      · rw [if_neg (fun z => hj z.2), if_neg hj, wg_o (by omega) (by omega)]
    have oth : ∀ c j, ¬ c = 38 → pf s d c j = wg s (44 + 4 * hrr h d) (d % 4) (s (44 + 4 * hrr h d + 1) (d % 4) + mv (s (44 + 4 * hrr h d) 1) (s (44 + 4 * hrr h d) 2) (s 38 5) (d % 4)) c j := fun c j hc => by
      rw [epf]
      exact upd_nc hc
    have s1 : stp (s 38 5) h d 1 = h 1 - 1 := by rw [est]; exact if_pos rfl
    have s5 : stp (s 38 5) h d 5 = h 5 := by rw [est]; unfold setf; (try dsimp only); rw [if_neg (by omega), if_neg (by omega)]
    have s6 : stp (s 38 5) h d 6 = h 6 := by rw [est]; unfold setf; (try dsimp only); rw [if_neg (by omega), if_neg (by omega)]
    refine ⟨by rw [o38, if_neg (by omega), hst0]; exact r3, by rw [o38, if_pos rfl, s1]; omega, by rw [o38, if_neg (by omega), hst2]; exact r4, by rw [o38, if_neg (by omega), s5]; exact r7, by rw [o38, if_neg (by omega), s6]; exact r8, fun i i0 i6 => ?_, fun i i0 i1 => ?_⟩
    · by_cases hii : i = hrr h d
      · subst hii
        exact gok_cong (fun j => oth _ _ (by omega)) (fun j => oth _ _ (by omega)) (gok_wg (rg _ i0 i6))
      · exact gok_cong (fun j => by rw [oth _ _ (by omega), wg_o (by omega) (by omega)]) (fun j => by rw [oth _ _ (by omega), wg_o (by omega) (by omega)]) (rg i i0 i6)
    · rw [hst0] at i1
      rw [stp_k (R := s 38 5) (j := 8 + 5 * i) hh hd (by omega), oth _ _ (by omega)]
      by_cases hii : i = hrr h d
      · subst hii
        obtain ⟨q1, q2⟩ := rw_ _ i0 i1
        refine ⟨by rw [wg_1]; exact q1, fun c c0 c1 => ?_⟩
        rw [oth _ _ (by omega), wg_w, est]
        unfold setf
        try dsimp only
        have n1 : ¬ 9 + 5 * hrr h d + c = 1 := by omega
        by_cases hc : c = d % 4
        · have n2 : 9 + 5 * hrr h d + c = 9 + 5 * hrr h d + d % 4 := by omega
          rw [if_pos hc, if_neg n1, if_pos n2, q2 _ (by omega) (by omega), q1, rep_h hr hh i0 i1]
        · have n2 : ¬ 9 + 5 * hrr h d + c = 9 + 5 * hrr h d + d % 4 := by omega
          rw [if_neg hc, if_neg n1, if_neg n2, q2 c c0 c1]
      · rw [wg_o (by omega) (by omega)]
        obtain ⟨q1, q2⟩ := rw_ _ i0 i1
        refine ⟨q1, fun c c0 c1 => ?_⟩
        rw [oth _ _ (by omega), wg_o (by omega) (by omega), est]
        unfold setf
        try dsimp only
        rw [if_neg (by omega), if_neg (by omega)]
        exact q2 c c0 c1
  · by_cases h9 : d = 8
    · have epf : pf s d = m_upd s 38 6 (s 38 4) := by unfold pf; rw [if_neg h8, if_pos h9]
      have est : stp (s 38 5) h d = setf h 1 (h 2) := by unfold stp; rw [if_neg h8, if_pos h9]
      have oth : ∀ c j, ¬ c = 38 → pf s d c j = s c j := fun c j hc => by rw [epf]; exact upd_nc hc
      have o38 : ∀ j, ¬ j = 6 → pf s d 38 j = s 38 j := fun j hj => by rw [epf]; exact upd_nj hj
      have est' : ∀ j, ¬ j = 1 → stp (s 38 5) h d j = h j := fun j hj => by rw [est]; exact if_neg hj
      refine ⟨by rw [o38 _ (by omega), est' _ (by omega)]; exact r3, ?_, by rw [o38 _ (by omega), est' _ (by omega)]; exact r4, by rw [o38 _ (by omega), est' _ (by omega)]; exact r7, by rw [o38 _ (by omega), est' _ (by omega)]; exact r8, fun i i0 i6 => ?_, fun i i0 i1 => ?_⟩
      · rw [epf, est]
        rw [upd_eq]
        unfold setf
        rw [if_pos rfl]
        exact r4
      · exact gok_cong (fun j => oth _ _ (by omega)) (fun j => oth _ _ (by omega)) (rg i i0 i6)
      · rw [est' _ (by omega)] at i1
        obtain ⟨q1, q2⟩ := rw_ i i0 i1
        refine ⟨by rw [oth _ _ (by omega), est' _ (by omega)]; exact q1, fun c c0 c1 => ?_⟩
        rw [oth _ _ (by omega), est' _ (by omega)]
        exact q2 c c0 c1
    · have epf : pf s d = m_upd (m_upd s 38 7 ((d - 9) / 6)) 38 8 ((d - 9) % 6) := by unfold pf; rw [if_neg h8, if_neg h9]
      have est : stp (s 38 5) h d = setf (setf h 5 ((d - 9) / 6 + 1)) 6 ((d - 9) % 6 + 1) := by unfold stp; rw [if_neg h8, if_neg h9]
      have oth : ∀ c j, ¬ c = 38 → pf s d c j = s c j := fun c j hc => by rw [epf, upd_nc hc, upd_nc hc]
      have o38 : ∀ j, ¬ j = 7 → ¬ j = 8 → pf s d 38 j = s 38 j := fun j hj hj2 => by rw [epf, upd_nj hj2, upd_nj hj]
      have est' : ∀ j, ¬ j = 5 → ¬ j = 6 → stp (s 38 5) h d j = h j := fun j hj hj2 => by rw [est]; unfold setf; (try dsimp only); rw [if_neg hj2, if_neg hj]
      refine ⟨by rw [o38 _ (by omega) (by omega), est' _ (by omega) (by omega)]; exact r3, by rw [o38 _ (by omega) (by omega), est' _ (by omega) (by omega)]; exact r6, by rw [o38 _ (by omega) (by omega), est' _ (by omega) (by omega)]; exact r4, ?_, ?_, fun i i0 i6 => ?_, fun i i0 i1 => ?_⟩
      · rw [epf, est, upd_nj (by omega), upd_eq]
        unfold setf
        try dsimp only
        rw [if_neg (by omega), if_pos rfl]
        omega
      · rw [epf, est, upd_eq]
        unfold setf
        try dsimp only
        rw [if_pos rfl]
        omega
      · exact gok_cong (fun j => oth _ _ (by omega)) (fun j => oth _ _ (by omega)) (rg i i0 i6)
      · rw [est' _ (by omega) (by omega)] at i1
        obtain ⟨q1, q2⟩ := rw_ i i0 i1
        refine ⟨by rw [oth _ _ (by omega), est' _ (by omega) (by omega)]; exact q1, fun c c0 c1 => ?_⟩
        rw [oth _ _ (by omega), est' _ (by omega) (by omega)]
        exact q2 c c0 c1
