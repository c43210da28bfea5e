/-! calls side by side: a talk -/
def W0 (h : Int → Int) (i j : Int) : Int → Int := fun q => if 0 ≤ q ∧ q < 4 then h (9 + 5 * i + q) else if 4 ≤ q ∧ q < 8 then h (9 + 5 * j + (q - 4)) else 0
theorem W0_z {h : Int → Int} {i j : Int} : ∀ q, ¬ (0 ≤ q ∧ q < 8) → W0 h i j q = 0 := fun q hq => by
  unfold W0
  rw [if_neg (by omega), if_neg (by omega)]
theorem w8_W0 {s : m_St} {i j : Int} (hk : mok s) (i0 : 0 ≤ i) (i1 : i < s 83 0) (j0 : 0 ≤ j) (j1 : j < s 83 0) : w8 (W0 (s 83) i j) := by
  intro c c0 c1
  obtain ⟨_, _, _, a⟩ := hk.g i0 i1
  obtain ⟨_, _, _, b⟩ := hk.g j0 j1
  unfold W0
  by_cases h4 : c < 4
  · rw [if_pos ⟨c0, h4⟩]; exact a c c0 h4
  · rw [if_neg (by omega), if_pos ⟨by omega, c1⟩]; exact b (c - 4) (by omega) (by omega)
theorem wt_W0 {s s' : m_St} {i j : Int} (h : qOp s i j s') : wt s' 0 = W0 (s 83) i j := by
  obtain ⟨_, _, _, h3, h4⟩ := h
  funext q
  unfold W0
  by_cases q4 : 0 ≤ q ∧ q < 4
  · rw [if_pos q4, h3 q q4.1 q4.2]
  · rw [if_neg q4]
    by_cases q8 : 4 ≤ q ∧ q < 8
    · rw [if_pos q8]
      have := h4 (q - 4) (by omega) (by omega)
      rw [show 4 + (q - 4) = q by omega] at this
      exact this
    · rw [if_neg q8]
      unfold wt
      rw [if_neg (by omega)]
/-- two put aside by the class, as eight numbers -/
theorem tpr_btw {s : m_St} {i j : Int} (h : J s) (i0 : 0 ≤ i) (i1 : i < s 83 0) (j0 : 0 ≤ j) (j1 : j < s 83 0) : tpr (btw s (44 + 4 * i) (44 + 4 * j) (s 38 5)) (s 83 (8 + 5 * i)) (s 83 (8 + 5 * j)) (s 38 5) (W0 (s 83) i j) := by
  obtain ⟨hr, hk⟩ := h.v
  have h06 := hk.1.2.1
  have gi := hr.2.2.2.2.2.1 i i0 (by omega)
  have gj := hr.2.2.2.2.2.1 j j0 (by omega)
  obtain ⟨a1, a2, a3⟩ := btw_67 (o := 44 + 4 * j) (a := s 38 5) gi
  obtain ⟨b1, b2, b3⟩ := btw_69 (g := 44 + 4 * i) (a := s 38 5) gj (by omega)
  obtain ⟨ki, wi⟩ := hr.2.2.2.2.2.2 i i0 i1
  obtain ⟨kj, wj⟩ := hr.2.2.2.2.2.2 j j0 j1
  refine ⟨btw_tkok gi gj (by omega), by rw [a1, ki], by rw [b1, kj], ?_, fun c c0 c1 => ⟨?_, ?_⟩⟩
  · unfold btw
    rw [upd_eq]
  · rw [a3 c c0 c1, wi c c0 c1]
    unfold W0
    rw [if_pos ⟨c0, c1⟩]
  · rw [b3 c c0 c1, wj c c0 c1]
    unfold W0
    rw [if_neg (by omega), if_pos ⟨by omega, by omega⟩, show 4 + c - 4 = c by omega]
theorem tpr_tka {s : m_St} (h : J s) (hu : ¬ s 38 7 = -1) : tpr (tka s) (s 83 (8 + 5 * (s 83 5 - 1))) (s 83 (8 + 5 * (s 83 6 - 1))) (s 38 5) (W0 (s 83) (s 83 5 - 1) (s 83 6 - 1)) := by
  obtain ⟨_, hk, e7, e8, l7, l8⟩ := J_up h hu
  have u := hk.u
  have := tpr_btw h u.1 u.2.1 u.2.2.1 u.2.2.2
  unfold tka
  rw [e7, e8]
  exact this
theorem opS_open {s s' : m_St} {i j : Int} (h : J s) (i0 : 0 ≤ i) (i1 : i < s 83 0) (j0 : 0 ≤ j) (j1 : j < s 83 0) (hq : qOp s i j s') : opk s' (s 83 (8 + 5 * i)) (s 83 (8 + 5 * j)) (s 38 5) := by
  obtain ⟨q1, q2, q3, _⟩ := hq
  have hk := h.v.2
  obtain ⟨_, a1, a2, _⟩ := hk.g i0 i1
  obtain ⟨_, b1, b2, _⟩ := hk.g j0 j1
  refine ⟨q2, q3, a1, a2, b1, b2, q1 38 5 (by decide) (by decide), ?_⟩
  rw [q1 83 7 (by decide) (by decide)]
  exact hk.2
theorem cnw_iff {k0 k1 a : Int} {w : Int → Int} (a0 : 0 ≤ a) (a8 : a < 8) : cnw k0 k1 w a ↔ iAnd (iShr (if a / 4 = 0 then hA k0 w else hB k1 w) (a % 4)) 1 = 1 := by
  have e : (if a / 4 = 0 then hA k0 w else hB k1 w) = if a < 4 then hA k0 w else hB k1 w := by
    by_cases h : a < 4
    · rw [if_pos h, if_pos (by omega)]
    · rw [if_neg h, if_neg (by omega)]
  rw [e]
  unfold cnw
  have b := bit_of (a := if a < 4 then hA k0 w else hB k1 w) (j := a % 4) (by omega) (by omega)
  cases hb : bt (if a < 4 then hA k0 w else hB k1 w) (a % 4).toNat
  · rw [hb] at b
    rw [b]
    simp
  · rw [hb] at b
    rw [b]
    simp [a0, a8]
/-- a talk as far as it can be said -/
noncomputable def tkr (k0 k1 R : Int) (sc : Int → Int) : Nat → Int → (Int → Int) → Int × (Int → Int)
  | 0, n, w => (n, w)
  | m + 1, n, w => @ite _ (cnw k0 k1 w (sc n)) (Classical.propDecidable _) (tkr k0 k1 R sc m (n + 1) (utw k0 k1 R w (sc n))) (n, w)
theorem tkr_y {k0 k1 R n : Int} {sc w : Int → Int} {m : Nat} (h : cnw k0 k1 w (sc n)) : tkr k0 k1 R sc (m + 1) n w = tkr k0 k1 R sc m (n + 1) (utw k0 k1 R w (sc n)) := @if_pos _ (Classical.propDecidable _) h _ _ _
theorem tkr_n {k0 k1 R n : Int} {sc w : Int → Int} {m : Nat} (h : ¬ cnw k0 k1 w (sc n)) : tkr k0 k1 R sc (m + 1) n w = (n, w) := @if_neg _ (Classical.propDecidable _) h _ _ _
section OPS
variable {X : List Int32} {d : Nat} {s : m_St} {P : Option Value → m_St → Prop} {r n x2 k0 k1 R : Int} {sc : Int → Int}
theorem talk_C (h0 : 0 ≤ r) (h6 : r < 6) : ∀ (m : Nat) (n : Int) (s1 : m_St) (w : Int → Int), 0 ≤ n → n + m = s1 2 r → s1 2 r ≤ 40 → (∀ j, 0 ≤ j → j < s1 2 r → inR (s1 (4 + r) j)) → tpr s1 k0 k1 R w → (∀ j, 0 ≤ j → j < s1 2 r → s1 (4 + r) j = sc j) → (∀ s' w', tpr s' k0 k1 R w' → (∀ c q, ¬ (67 ≤ c ∧ c ≤ 70) → s' c q = s1 c q) → (tkr k0 k1 R sc m n w).2 = w' → P (some (vI (tkr k0 k1 R sc m n w).1)) (m_upd s' 0 9 (shw k0 k1 w'))) → Rn X (d + 6) 106 20 [some (vR 0), some (vI r), some (vI x2), some (vI n)] [] s1 P := by
  intro m
  induction m with
  | zero =>
    intro n s1 w n0 nm n4 hw ht hsc hp
    have hx := hp s1 w ht (fun _ _ _ => rfl) rfl
    rw [← (tpr_tng ht).2.1] at hx
    apply t_X5_talk_20 h0 h6 n0 <;> intros
    all_goals first | exact hx | omega
  | succ m ih =>
    intro n s1 w n0 nm n4 hw ht hsc hp
    have hn := hsc n n0 (by omega)
    have hc := tpr_cns ht (s1 (4 + r) n)
    have hwn := hw n n0 (by omega)
    by_cases hcan : cnw k0 k1 w (sc n)
    · rw [tkr_y hcan] at hp
      have hcan2 := hcan
      rw [← hn] at hcan2
      obtain ⟨c0, c8, c1⟩ := hcan2
      have hcz : ¬ cns s1 (s1 (4 + r) n) = 0 := fun z => (hc.mp z) ⟨c0, c8, c1⟩
      have fr : ∀ c q, ¬ (67 ≤ c ∧ c ≤ 70) → utS s1 (s1 (4 + r) n) c q = s1 c q := fun c q hcq => utS_o hcq
      have fin : Rn X (d + 6) 106 20 [some (vR 0), some (vI r), some (vI x2), some (vI (n + 1))] [] (utS s1 (s1 (4 + r) n)) P := by
        have t2 := tpr_ut ht c0 c8
        rw [hn] at t2
        refine ih (n + 1) _ _ (by omega) (by rw [fr 2 r (by omega)]; omega) (by rw [fr 2 r (by omega)]; exact n4) (fun j j0 j1 => ?_) (by rw [hn]; exact t2) (fun j j0 j1 => ?_) (fun s' w' t' f' e' => hp s' w' t' (fun c q hcq => by rw [f' c q hcq, fr c q hcq]) e')
        · rw [fr 2 r (by omega)] at j1
          rw [fr (4 + r) j (by omega)]
          exact hw j j0 j1
        · rw [fr 2 r (by omega)] at j1
          rw [fr (4 + r) j (by omega)]
          exact hsc j j0 j1
      apply t_X5_talk_20 h0 h6 n0 <;> intros
      all_goals first | exact fin | exact ht.1 | exact absurd (by assumption) hcz | omega
    · rw [tkr_n hcan] at hp
      have hx := hp s1 w ht (fun _ _ _ => rfl) rfl
      rw [← (tpr_tng ht).2.1] at hx
      have hcz : cns s1 (s1 (4 + r) n) = 0 := hc.mpr (fun z => hcan (by rw [← hn]; exact z))
      apply t_X5_talk_20 h0 h6 n0 <;> intros
      all_goals first | exact hx | exact absurd hcz (by assumption) | omega
theorem talk_M (h0 : 0 ≤ r) (h6 : r < 6) : ∀ (m : Nat) (n : Int) (s1 : m_St) (z3 : Option Value), 0 ≤ n → n + m = s1 78 r → s1 78 r ≤ 40 → (∀ j, 0 ≤ j → j < s1 78 r → s1 79 (40 * r + j) = sc j ∧ 0 ≤ sc j ∧ sc j < 8) → opk s1 k0 k1 R → w8 (wt s1 0) → (∀ s' w', (∀ c q, ¬ c = 89 → s' c q = s1 c q) → (tkr k0 k1 R sc m n (wt s1 0)).2 = w' → P (some (vI (tkr k0 k1 R sc m n (wt s1 0)).1)) (m_upd s' 77 11 (shw k0 k1 w'))) → Rn X (d + 4) 217 54 [some (vR 77), some (vI r), some (vI n), z3] [] s1 P := by
  intro m
  induction m with
  | zero =>
    intro n s1 z3 n0 nm n4 hsc ho hw hp
    have hx := hp s1 (wt s1 0) (fun _ _ _ => rfl) rfl
    have hoS : opS s1 := by unfold opS; rw [ho.1, ho.2.1, ho.2.2.2.2.2.2.1]; exact ho
    have e0 : hW s1 0 0 = hA k0 (wt s1 0) := by unfold hW; rw [if_pos rfl, ho.1]
    have e1 : hW s1 0 1 = hB k1 (wt s1 0) := by unfold hW; rw [if_neg (by decide), ho.2.1]
    unfold shw at hx
    rw [← e0, ← e1] at hx
    apply t_X6_talk_54 h0 h6 n0 <;> intros
    all_goals first | exact hx | exact hoS | exact hw | omega
  | succ m ih =>
    intro n s1 z3 n0 nm n4 hsc ho hw hp
    obtain ⟨hn, s0, s8⟩ := hsc n n0 (by omega)
    have hoS : opS s1 := by unfold opS; rw [ho.1, ho.2.1, ho.2.2.2.2.2.2.1]; exact ho
    have e0 : hW s1 0 0 = hA k0 (wt s1 0) := by unfold hW; rw [if_pos rfl, ho.1]
    have e1 : hW s1 0 1 = hB k1 (wt s1 0) := by unfold hW; rw [if_neg (by decide), ho.2.1]
    have ec : hW s1 0 (s1 79 (40 * r + n) / 4) = if sc n / 4 = 0 then hA k0 (wt s1 0) else hB k1 (wt s1 0) := by
      rw [hn]
      unfold hW
      rw [ho.1, ho.2.1]
    have hci := cnw_iff (k0 := k0) (k1 := k1) (w := wt s1 0) s0 s8
    rw [← ec, ← hn] at hci
    by_cases hcan : cnw k0 k1 (wt s1 0) (sc n)
    · rw [tkr_y hcan] at hp
      have hb1 := hci.mp (by rw [hn]; exact hcan)
      have copy : ∀ s5, qGo s1 0 (uW s1 0 (s1 79 (40 * r + n))) s5 → Rn X (d + 4) 217 102 [some (vR 77), some (vI r), some (vI n), some (vI 0)] [] s5 P := by
        intro s5 ⟨g1, g2⟩
        have loop : ∀ (m2 : Nat) (k : Int) (s6 : m_St), 0 ≤ k → k + m2 = 8 → (∀ c q, ¬ c = 89 → s6 c q = s1 c q) → (∀ q, 0 ≤ q → q < k → s6 89 q = s5 89 (8 + q)) → (∀ q, 8 ≤ q → s6 89 q = s5 89 q) → Rn X (d + 4) 217 102 [some (vR 77), some (vI r), some (vI n), some (vI k)] [] s6 P := by
          intro m2
          induction m2 with
          | zero =>
            intro k s6 kk0 km f1 f2 f3
            have k8 : k = 8 := by omega
            subst k8
            have ew : wt s6 0 = utw k0 k1 R (wt s1 0) (sc n) := by
              have : wt s6 0 = wt s5 1 := by
                funext q
                unfold wt
                by_cases hq : 0 ≤ q ∧ q < 8
                · rw [if_pos hq, if_pos hq, show 8 * 0 + q = q by omega, show 8 * 1 + q = 8 + q by omega]
                  exact f2 q hq.1 hq.2
                · rw [if_neg hq, if_neg hq]
              rw [this]
              have g2' : wt s5 1 = uW s1 0 (s1 79 (40 * r + n)) := g2
              rw [g2', hn]
              unfold uW
              rw [ho.1, ho.2.1, ho.2.2.2.2.2.2.1]
            have ho6 : opk s6 k0 k1 R := by
              unfold opk
              rw [f1 88 0 (by decide), f1 88 1 (by decide), f1 38 5 (by decide), f1 83 7 (by decide)]
              exact ho
            have hx := ih (n + 1) s6 (some (vI 8)) (by omega) (by rw [f1 78 r (by decide)]; omega) (by rw [f1 78 r (by decide)]; exact n4) (fun j j0 j1 => by rw [f1 78 r (by decide)] at j1; rw [f1 79 _ (by decide)]; exact hsc j j0 j1) ho6 (by rw [ew]; exact w8_utw hw) (fun s' w' fr e => hp s' w' (fun c q hc => by rw [fr c q hc, f1 c q hc]) (by rw [← ew]; exact e) |> fun z => by rw [ew]; exact z)
            apply t_X6_talk_102 h0 h6 n0 <;> intros
            all_goals first | exact hx | omega
          | succ m2 ih2 =>
            intro k s6 kk0 km f1 f2 f3
            have hx := ih2 (k + 1) (m_upd s6 89 k (s6 89 (8 + k))) (by omega) (by omega) (fun c q hc => by rw [upd_nc hc]; exact f1 c q hc) (fun q q0 q1 => by
              by_cases hq : q = k
              · rw [hq, upd_eq]; exact f3 _ (by omega)
              · rw [upd_nj hq]; exact f2 q q0 (by omega)) (fun q q8 => by rw [upd_nj (by omega)]; exact f3 q q8)
            apply t_X6_talk_102 h0 h6 n0 <;> intros
            all_goals first | exact hx | omega
        exact loop 8 0 s5 (by omega) (by omega) (fun c q hc => g1 c q (fun z => hc z.1)) (fun q q0 q1 => by omega) (fun _ _ => rfl)
      apply t_X6_talk_54 h0 h6 n0 <;> intros
      all_goals first | exact copy _ (by assumption) | exact hoS | exact hw | exact absurd hb1 (by assumption) | omega
    · rw [tkr_n hcan] at hp
      have hb1 : ¬ iAnd (iShr (hW s1 0 (s1 79 (40 * r + n) / 4)) (s1 79 (40 * r + n) % 4)) 1 = 1 := fun z => hcan (by have := hci.mpr z; rw [hn] at this; exact this)
      have hx := hp s1 (wt s1 0) (fun _ _ _ => rfl) rfl
      unfold shw at hx
      rw [← e0, ← e1] at hx
      apply t_X6_talk_54 h0 h6 n0 <;> intros
      all_goals first | exact hx | exact hoS | exact hw | exact absurd (by assumption) hb1 | omega
end OPS
