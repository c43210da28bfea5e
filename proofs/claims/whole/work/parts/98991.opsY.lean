/-! calls side by side: by turns -/
/-- what a run of turns below a depth leaves as it was -/
def kpD (s s' : m_St) (q : Int) : Prop := (∀ x j, ¬ x = 89 → ¬ x = 90 → ¬ x = 91 → s' x j = s x j) ∧ (∀ e, e < q → s' 90 e = s 90 e ∧ s' 91 e = s 91 e) ∧ ∀ e, 0 ≤ e → e ≤ q → wt s' e = wt s e
theorem kpD_tr {a b c : m_St} {q : Int} (h1 : kpD a b q) (h2 : kpD b c q) : kpD a c q := ⟨fun x j c1 c2 c3 => by rw [h2.1 x j c1 c2 c3, h1.1 x j c1 c2 c3], fun e he => ⟨by rw [(h2.2.1 e he).1, (h1.2.1 e he).1], by rw [(h2.2.1 e he).2, (h1.2.1 e he).2]⟩, fun e e0 he => by rw [h2.2.2 e e0 he, h1.2.2 e e0 he]⟩
/-- from a depth on nothing is under way -/
def frD (s : m_St) (n q : Int) : Prop := ∀ e, q ≤ e → e ≤ n → s 90 e = -1 ∧ s 91 e = -9
theorem opk_kpD {a b : m_St} {k0 k1 R : Int} (h : opk a k0 k1 R) (e : ∀ c j, ¬ c = 89 → ¬ c = 90 → ¬ c = 91 → b c j = a c j) : opk b k0 k1 R := by
  unfold opk
  rw [e 88 0 (by decide) (by decide) (by decide), e 88 1 (by decide) (by decide) (by decide), e 38 5 (by decide) (by decide) (by decide), e 83 7 (by decide) (by decide) (by decide)]
  exact h
theorem wt_nc {s : m_St} {c q v e : Int} (h : ¬ c = 89) : wt (m_upd s c q v) e = wt s e := by
  funext j
  unfold wt
  rw [upd_nc (by omega)]
section OPY
variable {X : List Int32} {d : Nat} {n k0 k1 R : Int} {P : Option Value → m_St → Prop}
theorem gB_r {m : Nat} {fl : Int} {w : Int → Int} (hw : w8 w) : 0 ≤ gB k0 k1 R m fl w ∧ gB k0 k1 R m fl w ≤ 4 := by
  rw [gB_bF m fl w hw]
  exact bF_r _ _ _ _ _ _
theorem duel_M (n0 : 0 ≤ n) (n5 : n ≤ 5) : ∀ (m : Nat) (q : Int) (s : m_St) (z : Int), 0 ≤ q → q + m = n → opk s k0 k1 R → w8 (wt s q) → frD s n q → (∀ e, 0 ≤ e → e < q → inR (s 91 e)) →
    (∀ s', kpD s s' q → frD s' n q → (q + (-1) < 0 → P (some (vI (gB k0 k1 R m (flq q) (wt s q)))) s') ∧ (0 ≤ q + (-1) → Rn X (d + 4) 238 56 [some (vR 77), some (vI n), some (vI (q + (-1))), some (vI (gB k0 k1 R m (flq q) (wt s q)))] [] (m_upd s' 91 (q + (-1)) (bst (flq (q + (-1))) (s' 91 (q + (-1))) (gB k0 k1 R m (flq q) (wt s q)))) P)) →
    Rn X (d + 4) 238 56 [some (vR 77), some (vI n), some (vI q), some (vI z)] [] s P := by
  intro m
  induction m with
  | zero =>
    intro q s z q0 hq ho hw hfr hb hK
    have hqn : q = n := by omega
    have hoS : opS s := by unfold opS; rw [ho.1, ho.2.1, ho.2.2.2.2.2.2.1]; exact ho
    have e0 : hW s q 0 = hA k0 (wt s q) := by unfold hW; rw [if_pos rfl, ho.1]
    have e1 : hW s q 1 = hB k1 (wt s q) := by unfold hW; rw [if_neg (by decide), ho.2.1]
    have hsr := shw_r k0 k1 (wt s q)
    have ev : on16 (iAnd (hW s q 0) (hW s q 1)) = gB k0 k1 R 0 (flq q) (wt s q) := by
      rw [e0, e1]
      exact on_bc hsr.1 hsr.2
    have hr := gB_r (k0 := k0) (k1 := k1) (R := R) (m := 0) (fl := flq q) hw
    have hfin := hK (m_upd (m_upd (m_upd (m_upd s 91 q (gB k0 k1 R 0 (flq q) (wt s q))) 90 q 8) 90 q (-1)) 91 q (-9)) ⟨fun x j c1 c2 c3 => by rw [upd_nc c3, upd_nc c2, upd_nc c2, upd_nc c3], fun e he => ⟨by rw [upd_nc (by decide), upd_nj (by omega), upd_nj (by omega), upd_nc (by decide)], by rw [upd_nj (by omega), upd_nc (by decide), upd_nc (by decide), upd_nj (by omega)]⟩, fun e _ _ => by rw [wt_nc (by decide), wt_nc (by decide), wt_nc (by decide), wt_nc (by decide)]⟩ (fun e h1 h2 => by
      have : e = q := by omega
      subst this
      exact ⟨by rw [upd_nc (by decide), upd_eq], upd_eq⟩)
    have hb1 : 0 ≤ q + (-1) → inR ((m_upd (m_upd (m_upd (m_upd s 91 q (gB k0 k1 R 0 (flq q) (wt s q))) 90 q 8) 90 q (-1)) 91 q (-9)) 91 (q + (-1))) := fun hz => by
      rw [upd_nj (by omega), upd_nc (by decide), upd_nc (by decide), upd_nj (by omega)]
      exact hb _ hz (by omega)
    obtain ⟨h1, h2⟩ := hfin
    clear hK hb
    apply t_X6_duel_56 n0 n5 <;> intros
    all_goals (try rw [ev])
    all_goals first | exact hoS | exact hw | (exact h1 (by assumption)) | (exact h2 (by assumption)) | (exact hb1 (by assumption)) | (clear h1 h2 hb1; omega)
  | succ m ih =>
    intro q s z q0 hq ho hw hfr hb hK
    generalize hFg : gBF (fun a => gB k0 k1 R m (nfl (flq q)) (utw k0 k1 R (wt s q) a)) k0 k1 (wt s q) = Fg
    have hFr : ∀ i v, Fg i = some v → 0 ≤ v ∧ v ≤ 4 := fun i v hv => by
      rw [← hFg] at hv
      by_cases hc : cnb k0 k1 (wt s q) i
      · rw [gBF_y hc] at hv
        injection hv with hv
        rw [← hv]; exact gB_r (w8_utw hw)
      · rw [gBF_n hc] at hv; cases hv
    have hbr := fun j => bsl_in (fl := flq q) (b := -9) (F := Fg) (Or.inl rfl) hFr j
    have hgs : gB k0 k1 R (m + 1) (flq q) (wt s q) = fixb (bsl (flq q) Fg (-9) 8) (gB k0 k1 R m (nfl (flq q)) (wt s q)) := by rw [← hFg]; rfl
    have hnb : ¬ q = n := by omega
    -- at the end of a depth
    have fin : ∀ s1 z, kpD s s1 q → frD s1 n (q + 1) → s1 90 q = 8 → s1 91 q = gB k0 k1 R (m + 1) (flq q) (wt s q) → Rn X (d + 4) 238 56 [some (vR 77), some (vI n), some (vI q), some (vI z)] [] s1 P := by
      intro s1 z hk hf h8 hv
      have hr := gB_r (k0 := k0) (k1 := k1) (R := R) (m := m + 1) (fl := flq q) hw
      obtain ⟨h1, h2⟩ := hK (m_upd (m_upd s1 90 q (-1)) 91 q (-9)) ⟨fun x j c1 c2 c3 => by rw [upd_nc c3, upd_nc c2, hk.1 x j c1 c2 c3], fun e he => ⟨by rw [upd_nc (by decide), upd_nj (by omega), (hk.2.1 e he).1], by rw [upd_nj (by omega), upd_nc (by decide), (hk.2.1 e he).2]⟩, fun e a1 a2 => by rw [wt_nc (by decide), wt_nc (by decide), hk.2.2 e a1 a2]⟩ (fun e h1 h2 => by
        by_cases he : e = q
        · subst he
          exact ⟨by rw [upd_nc (by decide), upd_eq], upd_eq⟩
        · have := hf e (by omega) h2
          exact ⟨by rw [upd_nc (by decide), upd_nj (by omega)]; exact this.1, by rw [upd_nj (by omega), upd_nc (by decide)]; exact this.2⟩)
      have hb1 : 0 ≤ q + (-1) → inR ((m_upd (m_upd s1 90 q (-1)) 91 q (-9)) 91 (q + (-1))) := fun hz => by
        rw [upd_nj (by omega), upd_nc (by decide), (hk.2.1 _ (by omega)).2]
        exact hb _ hz (by omega)
      rw [← hv] at h1 h2 hr
      clear hK hb hFr hbr hf ih
      apply t_X6_duel_56 n0 n5 <;> intros
      all_goals first | (exact h1 (by assumption)) | (exact h2 (by assumption)) | (exact hb1 (by assumption)) | (clear h1 h2 hb1; omega)
    have inner : ∀ (k : Nat) (a : Int) (s1 : m_St) (z : Int), a + k = 7 → -1 ≤ a → kpD s s1 q → frD s1 n (q + 1) → s1 90 q = a → s1 91 q = bsl (flq q) Fg (-9) (a + 1).toNat → Rn X (d + 4) 238 56 [some (vR 77), some (vI n), some (vI q), some (vI z)] [] s1 P := by
      intro k
      induction k with
      | zero =>
        intro a s1 z ha a1 hk hf h90 h91
        have ha7 : a = 7 := by omega
        subst ha7
        have e8 : ((7 : Int) + 1).toNat = 8 := rfl
        rw [e8] at h91
        have hr8 := hbr 8
        have ho1 : opk (m_upd s1 90 q (s1 90 q + 1)) k0 k1 R := opk_kpD ho (fun x j c1 c2 c3 => by rw [upd_nc c2, hk.1 x j c1 c2 c3])
        have hoS : opS (m_upd s1 90 q (s1 90 q + 1)) := by unfold opS; rw [ho1.1, ho1.2.1, ho1.2.2.2.2.2.2.1]; exact ho1
        have ew : wt (m_upd s1 90 q (s1 90 q + 1)) q = wt s q := by rw [wt_nc (by decide), hk.2.2 q q0 (by omega)]
        have hw1 : w8 (wt (m_upd s1 90 q (s1 90 q + 1)) q) := by rw [ew]; exact hw
        by_cases h9 : bsl (flq q) Fg (-9) 8 = -9
        · have down : ∀ s2, qGo (m_upd s1 90 q (s1 90 q + 1)) q (wt (m_upd s1 90 q (s1 90 q + 1)) q) s2 → Rn X (d + 4) 238 56 [some (vR 77), some (vI n), some (vI (q + 1)), some (vI 1)] [] s2 P := by
            intro s2 hgo
            have f2 : ∀ x j, ¬ x = 89 → s2 x j = m_upd s1 90 q (s1 90 q + 1) x j := fun x j c1 => hgo.1 x j (by omega)
            have w2 : wt s2 (q + 1) = wt s q := by rw [hgo.2, ew]
            have k2 : kpD s s2 q := ⟨fun x j c1 c2 c3 => by rw [f2 x j c1, upd_nc c2, hk.1 x j c1 c2 c3], fun e he => ⟨by rw [f2 90 e (by decide), upd_nj (by omega), (hk.2.1 e he).1], by rw [f2 91 e (by decide), upd_nc (by decide), (hk.2.1 e he).2]⟩, fun e a1 a2 => by rw [wt_go hgo a1 a2, wt_nc (by decide), hk.2.2 e a1 a2]⟩
            have p2 : s2 90 q = 8 := by rw [f2 90 q (by decide), upd_eq, h90]; rfl
            have b2 : s2 91 q = -9 := by rw [f2 91 q (by decide), upd_nc (by decide), h91, h9]
            have fr2 : frD s2 n (q + 1) := fun e h1 h2 => by
              have := hf e h1 h2
              exact ⟨by rw [f2 90 e (by decide), upd_nj (by omega)]; exact this.1, by rw [f2 91 e (by decide), upd_nc (by decide)]; exact this.2⟩
            refine ih (q + 1) s2 1 (by omega) (by omega) (opk_kpD ho k2.1) (by rw [w2]; exact hw) fr2 (fun e e0 he => ?_) (fun s3 k3 f3 => ⟨fun hz => by omega, fun _ => ?_⟩)
            · by_cases heq : e = q
              · rw [heq, b2]; decide
              · rw [(k2.2.1 e (by omega)).2]; exact hb e e0 (by omega)
            · rw [show q + 1 + -1 = q by omega, w2, flq_s q0]
              have b3 : s3 91 q = -9 := by rw [(k3.2.1 q (by omega)).2, b2]
              have hv : bst (flq q) (s3 91 q) (gB k0 k1 R m (nfl (flq q)) (wt s q)) = gB k0 k1 R (m + 1) (flq q) (wt s q) := by
                rw [hgs, b3, h9]
                rfl
              rw [hv]
              refine fin _ _ ⟨fun x j c1 c2 c3 => by rw [upd_nc c3, k3.1 x j c1 c2 c3, k2.1 x j c1 c2 c3], fun e he => ⟨by rw [upd_nc (by decide), (k3.2.1 e (by omega)).1, (k2.2.1 e he).1], by rw [upd_nj (by omega), (k3.2.1 e (by omega)).2, (k2.2.1 e he).2]⟩, fun e a1 a2 => by rw [wt_nc (by decide), k3.2.2 e a1 (by omega), k2.2.2 e a1 a2]⟩ (fun e h1 h2 => by
                have := f3 e h1 h2
                exact ⟨by rw [upd_nc (by decide)]; exact this.1, by rw [upd_nj (by omega)]; exact this.2⟩) (by rw [upd_nc (by decide), (k3.2.1 q (by omega)).1, p2]) upd_eq
          clear fin hK hb hFr hbr ih hf
          apply t_X6_duel_56 n0 n5 <;> intros
          all_goals first | (next hgo => rw [if_pos rfl] at hgo; exact down _ hgo) | exact hoS | exact hw1 | (clear down; omega)
        · have hv : gB k0 k1 R (m + 1) (flq q) (wt s q) = bsl (flq q) Fg (-9) 8 := by
            rw [hgs]
            unfold fixb
            rw [if_neg h9]
          have fin2 := fun z => fin (m_upd s1 90 q (s1 90 q + 1)) z ⟨fun x j c1 c2 c3 => by rw [upd_nc c2, hk.1 x j c1 c2 c3], fun e he => ⟨by rw [upd_nj (by omega), (hk.2.1 e he).1], by rw [upd_nc (by decide), (hk.2.1 e he).2]⟩, fun e a1 a2 => by rw [wt_nc (by decide), hk.2.2 e a1 a2]⟩ (fun e h1 h2 => by
            have := hf e h1 h2
            exact ⟨by rw [upd_nj (by omega)]; exact this.1, by rw [upd_nc (by decide)]; exact this.2⟩) (by rw [upd_eq, h90]; rfl) (by rw [upd_nc (by decide), h91, hv])
          clear fin hK hb hFr hbr ih hf
          apply t_X6_duel_56 n0 n5 <;> intros
          all_goals first | exact fin2 _ | exact hoS | exact hw1 | (clear fin2; omega)
      | succ k ihk =>
        intro a s1 z ha a1 hk hf h90 h91
        have ho1 : opk (m_upd s1 90 q (s1 90 q + 1)) k0 k1 R := opk_kpD ho (fun x j c1 c2 c3 => by rw [upd_nc c2, hk.1 x j c1 c2 c3])
        have hoS : opS (m_upd s1 90 q (s1 90 q + 1)) := by unfold opS; rw [ho1.1, ho1.2.1, ho1.2.2.2.2.2.2.1]; exact ho1
        have ew : wt (m_upd s1 90 q (s1 90 q + 1)) q = wt s q := by rw [wt_nc (by decide), hk.2.2 q q0 (by omega)]
        have hw1 : w8 (wt (m_upd s1 90 q (s1 90 q + 1)) q) := by rw [ew]; exact hw
        have ehW : hW (m_upd s1 90 q (s1 90 q + 1)) q ((s1 90 q + 1) / 4) = if (a + 1) / 4 = 0 then hA k0 (wt s q) else hB k1 (wt s q) := by
          unfold hW
          rw [ho1.1, ho1.2.1, ew, h90]
        have kk1 : kpD s (m_upd s1 90 q (s1 90 q + 1)) q := ⟨fun x j c1 c2 c3 => by rw [upd_nc c2, hk.1 x j c1 c2 c3], fun e he => ⟨by rw [upd_nj (by omega), (hk.2.1 e he).1], by rw [upd_nc (by decide), (hk.2.1 e he).2]⟩, fun e a1 a2 => by rw [wt_nc (by decide), hk.2.2 e a1 a2]⟩
        have ff1 : frD (m_upd s1 90 q (s1 90 q + 1)) n (q + 1) := fun e h1 h2 => by
          have := hf e h1 h2
          exact ⟨by rw [upd_nj (by omega)]; exact this.1, by rw [upd_nc (by decide)]; exact this.2⟩
        have eb : bsl (flq q) Fg (-9) (a + 1 + 1).toNat = match Fg (a + 1) with
            | some v => bst (flq q) (bsl (flq q) Fg (-9) (a + 1).toNat) v
            | none => bsl (flq q) Fg (-9) (a + 1).toNat := bsl_up (by omega)
        have hr8 := hbr (a + 1).toNat
        by_cases hcan : cnb k0 k1 (wt s q) (a + 1)
        · have hb2 : iAnd (iShr (hW (m_upd s1 90 q (s1 90 q + 1)) q ((s1 90 q + 1) / 4)) ((s1 90 q + 1) % 4)) 1 = 1 := by rw [ehW, h90]; exact hcan
          have eF : Fg (a + 1) = some (gB k0 k1 R m (nfl (flq q)) (utw k0 k1 R (wt s q) (a + 1))) := by rw [← hFg]; exact gBF_y hcan
          rw [eF] at eb
          have down : ∀ s2, qGo (m_upd s1 90 q (s1 90 q + 1)) q (uW (m_upd s1 90 q (s1 90 q + 1)) q (s1 90 q + 1)) s2 → Rn X (d + 4) 238 56 [some (vR 77), some (vI n), some (vI (q + 1)), some (vI 0)] [] s2 P := by
            intro s2 hgo
            have f2 : ∀ x j, ¬ x = 89 → s2 x j = m_upd s1 90 q (s1 90 q + 1) x j := fun x j c1 => hgo.1 x j (by omega)
            have w2 : wt s2 (q + 1) = utw k0 k1 R (wt s q) (a + 1) := by
              rw [hgo.2]
              unfold uW
              rw [ho1.1, ho1.2.1, ho1.2.2.2.2.2.2.1, ew, h90]
            have k2 : kpD s s2 q := ⟨fun x j c1 c2 c3 => by rw [f2 x j c1, kk1.1 x j c1 c2 c3], fun e he => ⟨by rw [f2 90 e (by decide), (kk1.2.1 e he).1], by rw [f2 91 e (by decide), (kk1.2.1 e he).2]⟩, fun e a1 a2 => by rw [wt_go hgo a1 a2, kk1.2.2 e a1 a2]⟩
            have p2 : s2 90 q = a + 1 := by rw [f2 90 q (by decide), upd_eq, h90]
            have b2 : s2 91 q = bsl (flq q) Fg (-9) (a + 1).toNat := by rw [f2 91 q (by decide), upd_nc (by decide), h91]
            have fr2 : frD s2 n (q + 1) := fun e h1 h2 => by
              have := ff1 e h1 h2
              exact ⟨by rw [f2 90 e (by decide)]; exact this.1, by rw [f2 91 e (by decide)]; exact this.2⟩
            refine ih (q + 1) s2 0 (by omega) (by omega) (opk_kpD ho k2.1) (by rw [w2]; exact w8_utw hw) fr2 (fun e e0 he => ?_) (fun s3 k3 f3 => ⟨fun hz => by omega, fun _ => ?_⟩)
            · by_cases heq : e = q
              · rw [heq, b2]; omega
              · rw [(k2.2.1 e (by omega)).2]; exact hb e e0 (by omega)
            · rw [show q + 1 + -1 = q by omega, w2, flq_s q0]
              have b3 : s3 91 q = bsl (flq q) Fg (-9) (a + 1).toNat := by rw [(k3.2.1 q (by omega)).2, b2]
              refine ihk (a + 1) _ _ (by omega) (by omega) ⟨fun x j c1 c2 c3 => by rw [upd_nc c3, k3.1 x j c1 c2 c3, k2.1 x j c1 c2 c3], fun e he => ⟨by rw [upd_nc (by decide), (k3.2.1 e (by omega)).1, (k2.2.1 e he).1], by rw [upd_nj (by omega), (k3.2.1 e (by omega)).2, (k2.2.1 e he).2]⟩, fun e a1 a2 => by rw [wt_nc (by decide), k3.2.2 e a1 (by omega), k2.2.2 e a1 a2]⟩ (fun e h1 h2 => by
                have := f3 e h1 h2
                exact ⟨by rw [upd_nc (by decide)]; exact this.1, by rw [upd_nj (by omega)]; exact this.2⟩) (by rw [upd_nc (by decide), (k3.2.1 q (by omega)).1, p2]) (by rw [upd_eq, b3]; exact eb.symm)
          clear fin hK hb hFr hbr ih hf ihk ff1 eb
          apply t_X6_duel_56 n0 n5 <;> intros
          all_goals first | (exact down _ (by assumption)) | exact hoS | exact hw1 | exact absurd hb2 (by assumption) | (clear down; omega)
        · have hb2 : ¬ iAnd (iShr (hW (m_upd s1 90 q (s1 90 q + 1)) q ((s1 90 q + 1) / 4)) ((s1 90 q + 1) % 4)) 1 = 1 := by rw [ehW, h90]; exact hcan
          have eF : Fg (a + 1) = none := by rw [← hFg]; exact gBF_n hcan
          rw [eF] at eb
          have fin2 := fun z => ihk (a + 1) (m_upd s1 90 q (s1 90 q + 1)) z (by omega) (by omega) kk1 ff1 (by rw [upd_eq, h90]) (by rw [upd_nc (by decide), h91]; exact eb.symm)
          clear fin hK hb hFr hbr ih hf ihk ff1 eb
          apply t_X6_duel_56 n0 n5 <;> intros
          all_goals first | exact fin2 _ | exact hoS | exact hw1 | exact absurd (by assumption) hb2 | (clear fin2; omega)
    exact inner 8 (-1) s z (by omega) (by omega) ⟨fun _ _ _ _ _ => rfl, fun _ _ => ⟨rfl, rfl⟩, fun _ _ _ => rfl⟩ (fun e h1 h2 => hfr e (by omega) h2) (hfr q (by omega) (by omega)).1 (hfr q (by omega) (by omega)).2
end OPY
