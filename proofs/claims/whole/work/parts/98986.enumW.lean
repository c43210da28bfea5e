/-! the reference counts talks one after another -/
noncomputable def lvW (k0 k1 R c : Int) (m : Nat) (w : Int → Int) (x : Int × Int) : Int × Int := (x.1 + gC k0 k1 R c m w, iAnd x.2 (gI k0 k1 R c m w))
noncomputable def cdW (k0 k1 R c : Int) (m : Nat) (w : Int → Int) (a : Int) (x : Int × Int) : Int × Int := @ite _ (cnb k0 k1 w a) (Classical.propDecidable _) (lvW k0 k1 R c m (utw k0 k1 R w a) x) x
theorem cdW_y {k0 k1 R c a : Int} {m : Nat} {w : Int → Int} {x : Int × Int} (h : cnb k0 k1 w a) : cdW k0 k1 R c m w a x = lvW k0 k1 R c m (utw k0 k1 R w a) x := @if_pos _ (Classical.propDecidable _) h _ _ _
theorem cdW_n {k0 k1 R c a : Int} {m : Nat} {w : Int → Int} {x : Int × Int} (h : ¬ cnb k0 k1 w a) : cdW k0 k1 R c m w a x = x := @if_neg _ (Classical.propDecidable _) h _ _ _
noncomputable def tlW (k0 k1 R c : Int) (m : Nat) (w : Int → Int) : Nat → Int → Int × Int → Int × Int
  | 0, _, x => x
  | k + 1, a, x => tlW k0 k1 R c m w k (a + 1) (cdW k0 k1 R c m w a x)
theorem tlW_8 {k0 k1 R c : Int} {m : Nat} {w : Int → Int} {x : Int × Int} (hx : 0 ≤ x.2 ∧ x.2 < 16) : tlW k0 k1 R c m w 8 0 x = lvW k0 k1 R c (m + 1) w x := by
  have go : ∀ (k j : Nat), j + k = 8 → tlW k0 k1 R c m w k j (x.1 + sm (fun a => @ite _ (cnb k0 k1 w a) (Classical.propDecidable _) (gC k0 k1 R c m (utw k0 k1 R w a)) 0) j, iAnd x.2 (an (fun a => @ite _ (cnb k0 k1 w a) (Classical.propDecidable _) (gI k0 k1 R c m (utw k0 k1 R w a)) 15) 15 j)) = lvW k0 k1 R c (m + 1) w x := by
    intro k
    induction k with
    | zero =>
      intro j hj
      have : j = 8 := by omega
      subst this
      rfl
    | succ k ih =>
      intro j hj
      have h := ih (j + 1) (by omega)
      rw [sm_s, an_s] at h
      show tlW k0 k1 R c m w k ((j : Int) + 1) (cdW k0 k1 R c m w j _) = _
      rw [show ((j + 1 : Nat) : Int) = (j : Int) + 1 by omega] at h
      rw [← h]
      congr 1
      by_cases hc : cnb k0 k1 w j
      · rw [cdW_y hc, if_pos hc, if_pos hc]
        unfold lvW
        rw [iAnd_assoc, Int.add_assoc]
      · rw [cdW_n hc, if_neg hc, if_neg hc, Int.add_zero, ← iAnd_assoc]
        have e : ∀ y, iAnd (iAnd x.2 y) 15 = iAnd x.2 y := fun y => by
          rw [iAnd_comm x.2 y, iAnd_assoc, iAnd_15 hx.1 hx.2]
        rw [e]
  have := go 8 0 rfl
  have e0 : (x.1 + sm (fun a => @ite _ (cnb k0 k1 w a) (Classical.propDecidable _) (gC k0 k1 R c m (utw k0 k1 R w a)) 0) 0, iAnd x.2 (an (fun a => @ite _ (cnb k0 k1 w a) (Classical.propDecidable _) (gI k0 k1 R c m (utw k0 k1 R w a)) 15) 15 0)) = x := by
    show (x.1 + 0, iAnd x.2 15) = x
    rw [Int.add_zero, iAnd_15 hx.1 hx.2]
  rw [e0] at this
  exact this
section ENUW
variable {X : List Int32} {d : Nat} {n k0 k1 R c : Int} {A : Int → Int × Int → (Option Value → m_St → Prop) → Prop}
theorem srch3 (n1 : 1 ≤ n) (n5 : n ≤ 5) (A01 : ∀ f x P, A f x P → (f = 0 ∨ f = 1) ∧ 0 ≤ x.2 ∧ x.2 < 16)
    (hN : ∀ f x P s', A f x P → opk s' k0 k1 R → w8 (wt s' n) → ∃ f2 P2, A f2 (lvW k0 k1 R c 0 (wt s' n) x) P2 ∧ (Rn X (d + 4) 227 23 [some (vR 77), some (vI n), some (vI f2), some (vI (n - 1))] [] s' P2 → P (some (vI 1)) s')) :
    ∀ (m : Nat) (k : Nat) (a q : Int) (s : m_St) (f : Int) (x : Int × Int) (P : Option Value → m_St → Prop), A f x P → q + m + 1 = n → a + k = 7 → -1 ≤ a → s 90 q = a → opk s k0 k1 R → w8 (wt s q) → 0 ≤ q →
      (∀ s' f' P', A f' (tlW k0 k1 R c m (wt s q) k (a + 1) x) P' → kep s s' q → Rn X (d + 4) 227 23 [some (vR 77), some (vI n), some (vI f'), some (vI (q + (-1)))] [] s' P') →
      Rn X (d + 4) 227 23 [some (vR 77), some (vI n), some (vI f), some (vI q)] [] s P := by
  intro m
  induction m with
  | zero =>
    intro k
    induction k with
    | zero =>
      intro a q s f x P hAf hq ha a1 sa ho hw q0 hE
      have hf01 := (A01 f x P hAf).1
      have fin := hE (m_upd s 90 q (s 90 q + 1)) f P hAf ⟨fun x j c1 c2 => upd_nc c2, fun e he => upd_nj (by omega), fun e _ _ => wt_90⟩
      apply t_X6_nextTalk_23 (by omega) n5 <;> intros
      all_goals first | exact fin | omega
    | succ k ihk =>
      intro a q s f x P hAf hq ha a1 sa ho hw q0 hE
      have hf01 := (A01 f x P hAf).1
      have hs1 : m_upd s 90 q (s 90 q + 1) = m_upd s 90 q (a + 1) := by rw [sa]
      have ho1 : opk (m_upd s 90 q (a + 1)) k0 k1 R := opk_kep (q := 0) ho (fun x j c1 c2 => upd_nc c2)
      have hoS : opS (m_upd s 90 q (a + 1)) := by unfold opS; rw [ho1.1, ho1.2.1, ho1.2.2.2.2.2.2.1]; exact ho1
      have hw1 : w8 (wt (m_upd s 90 q (a + 1)) q) := by rw [wt_90]; exact hw
      have hkeep : kep s (m_upd s 90 q (a + 1)) q := ⟨fun x j c1 c2 => upd_nc c2, fun e he => upd_nj (by omega), fun e _ _ => wt_90⟩
      have ehW : hW (m_upd s 90 q (a + 1)) q ((a + 1) / 4) = if (a + 1) / 4 = 0 then hA k0 (wt s q) else hB k1 (wt s q) := by
        unfold hW
        rw [ho1.1, ho1.2.1, wt_90]
      have cont : ∀ s' f' P', A f' (cdW k0 k1 R c 0 (wt s q) (a + 1) x) P' → kep s s' q → s' 90 q = a + 1 → Rn X (d + 4) 227 23 [some (vR 77), some (vI n), some (vI f'), some (vI q)] [] s' P' := by
        intro s' f' P' hA' hk' hs'
        have ew : wt s' q = wt s q := hk'.2.2 q q0 (by omega)
        refine ihk (a + 1) q s' f' _ P' hA' hq (by omega) (by omega) hs' (opk_kep (q := 0) ho hk'.1) (by rw [ew]; exact hw) q0 (fun s2 f2 P2 hA2 hk2 => ?_)
        rw [ew] at hA2
        exact hE s2 f2 P2 hA2 (kep_tr hk' hk2)
      by_cases hcan : cnb k0 k1 (wt s q) (a + 1)
      · have hb : iAnd (iShr (hW (m_upd s 90 q (a + 1)) q ((a + 1) / 4)) ((a + 1) % 4)) 1 = 1 := by rw [ehW]; exact hcan
        have leaf : ∀ s2, qGo (m_upd s 90 q (a + 1)) q (uW (m_upd s 90 q (a + 1)) q (a + 1)) s2 → P (some (vI 1)) s2 := by
          intro s2 hgo
          have huW : uW (m_upd s 90 q (a + 1)) q (a + 1) = utw k0 k1 R (wt s q) (a + 1) := by
            unfold uW
            rw [ho1.1, ho1.2.1, ho1.2.2.2.2.2.2.1, wt_90]
          have e2 : wt s2 (q + 1) = utw k0 k1 R (wt s q) (a + 1) := by rw [hgo.2, huW]
          have f2 : ∀ x j, ¬ x = 89 → ¬ x = 90 → s2 x j = s x j := fun x j c1 c2 => by rw [hgo.1 x j (by omega), upd_nc c2]
          have k2 : kep s s2 q := ⟨f2, fun e he => by rw [hgo.1 90 e (by omega), upd_nj (by omega)], fun e e0 he => by rw [wt_go hgo e0 he, wt_90]⟩
          have p2 : s2 90 q = a + 1 := by rw [hgo.1 90 q (by omega), upd_eq]
          have en : n = q + 1 := by omega
          have w2 : w8 (wt s2 n) := by rw [en, e2]; exact w8_utw hw
          have ho2 := opk_kep (q := 0) ho f2
          obtain ⟨f3, P3, hA3, h3⟩ := hN f x P s2 hAf ho2 w2
          rw [show wt s2 n = utw k0 k1 R (wt s q) (a + 1) by rw [en, e2], ← cdW_y hcan] at hA3
          refine h3 ?_
          rw [show n - 1 = q by omega]
          exact cont s2 f3 P3 hA3 k2 p2
        apply t_X6_nextTalk_23 (by omega) n5 <;> intros
        all_goals (try rw [sa] at *)
        all_goals first | (exact leaf _ (by assumption)) | exact hoS | exact hw1 | exact absurd hb (by assumption) | omega
      · have hb : ¬ iAnd (iShr (hW (m_upd s 90 q (a + 1)) q ((a + 1) / 4)) ((a + 1) % 4)) 1 = 1 := by rw [ehW]; exact hcan
        have fin := cont (m_upd s 90 q (a + 1)) f P (by rw [cdW_n hcan]; exact hAf) hkeep upd_eq
        apply t_X6_nextTalk_23 (by omega) n5 <;> intros
        all_goals (try rw [sa] at *)
        all_goals first | exact fin | exact hoS | exact hw1 | exact absurd (by assumption) hb | omega
  | succ m ihm =>
    intro k
    induction k with
    | zero =>
      intro a q s f x P hAf hq ha a1 sa ho hw q0 hE
      have hf01 := (A01 f x P hAf).1
      have fin := hE (m_upd s 90 q (s 90 q + 1)) f P hAf ⟨fun x j c1 c2 => upd_nc c2, fun e he => upd_nj (by omega), fun e _ _ => wt_90⟩
      apply t_X6_nextTalk_23 (by omega) n5 <;> intros
      all_goals first | exact fin | omega
    | succ k ihk =>
      intro a q s f x P hAf hq ha a1 sa ho hw q0 hE
      have hf01 := (A01 f x P hAf).1
      have ho1 : opk (m_upd s 90 q (a + 1)) k0 k1 R := opk_kep (q := 0) ho (fun x j c1 c2 => upd_nc c2)
      have hoS : opS (m_upd s 90 q (a + 1)) := by unfold opS; rw [ho1.1, ho1.2.1, ho1.2.2.2.2.2.2.1]; exact ho1
      have hw1 : w8 (wt (m_upd s 90 q (a + 1)) q) := by rw [wt_90]; exact hw
      have hkeep : kep s (m_upd s 90 q (a + 1)) q := ⟨fun x j c1 c2 => upd_nc c2, fun e he => upd_nj (by omega), fun e _ _ => wt_90⟩
      have ehW : hW (m_upd s 90 q (a + 1)) q ((a + 1) / 4) = if (a + 1) / 4 = 0 then hA k0 (wt s q) else hB k1 (wt s q) := by
        unfold hW
        rw [ho1.1, ho1.2.1, wt_90]
      have cont : ∀ s' f' P', A f' (cdW k0 k1 R c (m + 1) (wt s q) (a + 1) x) P' → kep s s' q → s' 90 q = a + 1 → Rn X (d + 4) 227 23 [some (vR 77), some (vI n), some (vI f'), some (vI q)] [] s' P' := by
        intro s' f' P' hA' hk' hs'
        have ew : wt s' q = wt s q := hk'.2.2 q q0 (by omega)
        refine ihk (a + 1) q s' f' _ P' hA' hq (by omega) (by omega) hs' (opk_kep (q := 0) ho hk'.1) (by rw [ew]; exact hw) q0 (fun s2 f2 P2 hA2 hk2 => ?_)
        rw [ew] at hA2
        exact hE s2 f2 P2 hA2 (kep_tr hk' hk2)
      by_cases hcan : cnb k0 k1 (wt s q) (a + 1)
      · have hb : iAnd (iShr (hW (m_upd s 90 q (a + 1)) q ((a + 1) / 4)) ((a + 1) % 4)) 1 = 1 := by rw [ehW]; exact hcan
        have down : ∀ s2, qGo (m_upd s 90 q (a + 1)) q (uW (m_upd s 90 q (a + 1)) q (a + 1)) s2 → Rn X (d + 4) 227 23 [some (vR 77), some (vI n), some (vI f), some (vI (q + 1))] [] (m_upd s2 90 (q + 1) (-1)) P := by
          intro s2 hgo
          have huW : uW (m_upd s 90 q (a + 1)) q (a + 1) = utw k0 k1 R (wt s q) (a + 1) := by
            unfold uW
            rw [ho1.1, ho1.2.1, ho1.2.2.2.2.2.2.1, wt_90]
          have e2 : wt (m_upd s2 90 (q + 1) (-1)) (q + 1) = utw k0 k1 R (wt s q) (a + 1) := by rw [wt_90, hgo.2, huW]
          have f2 : ∀ x j, ¬ x = 89 → ¬ x = 90 → m_upd s2 90 (q + 1) (-1) x j = s x j := fun x j c1 c2 => by rw [upd_nc c2, hgo.1 x j (by omega), upd_nc c2]
          have k2 : kep s (m_upd s2 90 (q + 1) (-1)) q := ⟨f2, fun e he => by rw [upd_nj (by omega), hgo.1 90 e (by omega), upd_nj (by omega)], fun e e0 he => by rw [wt_90, wt_go hgo e0 he, wt_90]⟩
          have p2 : m_upd s2 90 (q + 1) (-1) 90 q = a + 1 := by rw [upd_nj (by omega), hgo.1 90 q (by omega), upd_eq]
          refine ihm 8 (-1) (q + 1) _ f x P hAf (by omega) (by omega) (by omega) upd_eq (opk_kep (q := 0) ho f2) (by rw [e2]; exact w8_utw hw) (by omega) (fun s3 f3 P3 hA3 hk3 => ?_)
          rw [e2, show (-1 : Int) + 1 = 0 by decide, tlW_8 (A01 f x P hAf).2, ← cdW_y hcan] at hA3
          rw [show q + 1 + -1 = q by omega]
          exact cont s3 f3 P3 hA3 (kep_tr k2 (kep_dn hk3 q0)) (by rw [hk3.2.1 q (by omega), p2])
        apply t_X6_nextTalk_23 (by omega) n5 <;> intros
        all_goals (try rw [sa] at *)
        all_goals first | (exact down _ (by assumption)) | exact hoS | exact hw1 | exact absurd hb (by assumption) | omega
      · have hb : ¬ iAnd (iShr (hW (m_upd s 90 q (a + 1)) q ((a + 1) / 4)) ((a + 1) % 4)) 1 = 1 := by rw [ehW]; exact hcan
        have fin := cont (m_upd s 90 q (a + 1)) f P (by rw [cdW_n hcan]; exact hAf) hkeep upd_eq
        apply t_X6_nextTalk_23 (by omega) n5 <;> intros
        all_goals (try rw [sa] at *)
        all_goals first | exact fin | exact hoS | exact hw1 | exact absurd (by assumption) hb | omega
end ENUW
