/-! the reference tries talks one after another: the first that serves -/
def cnb (k0 k1 : Int) (w : Int → Int) (a : Int) : Prop := iAnd (iShr (if a / 4 = 0 then hA k0 w else hB k1 w) (a % 4)) 1 = 1
def mcd (k0 k1 c : Int) (w : Int → Int) : Prop := hA k0 w = hB k1 w ∧ iAnd c (iXor (shw k0 k1 w) (-1)) = 0
noncomputable def gF (k0 k1 R c : Int) : Nat → (Int → Int) → Option (List Int)
  | 0, w => @ite _ (mcd k0 k1 c w) (Classical.propDecidable _) (some []) none
  | m + 1, w => fsts (fun a => @ite _ (cnb k0 k1 w a) (Classical.propDecidable _) (gF k0 k1 R c m (utw k0 k1 R w a)) none) 8 0
noncomputable def gG (k0 k1 R c : Int) (m : Nat) (w : Int → Int) : Int → Option (List Int) := fun a => @ite _ (cnb k0 k1 w a) (Classical.propDecidable _) (gF k0 k1 R c m (utw k0 k1 R w a)) none
theorem gG_y {k0 k1 R c a : Int} {m : Nat} {w : Int → Int} (h : cnb k0 k1 w a) : gG k0 k1 R c m w a = gF k0 k1 R c m (utw k0 k1 R w a) := @if_pos _ (Classical.propDecidable _) h _ _ _
theorem gG_n {k0 k1 R c a : Int} {m : Nat} {w : Int → Int} (h : ¬ cnb k0 k1 w a) : gG k0 k1 R c m w a = none := @if_neg _ (Classical.propDecidable _) h _ _ _
theorem gF_y {k0 k1 R c : Int} {w : Int → Int} (h : mcd k0 k1 c w) : gF k0 k1 R c 0 w = some [] := @if_pos _ (Classical.propDecidable _) h _ _ _
theorem gF_n {k0 k1 R c : Int} {w : Int → Int} (h : ¬ mcd k0 k1 c w) : gF k0 k1 R c 0 w = none := @if_neg _ (Classical.propDecidable _) h _ _ _
theorem fsts_s {F : Int → Option (List Int)} {k : Nat} {a : Int} {p : List Int} (h : F a = some p) : fsts F (k + 1) a = some (a :: p) := by
  show (match F a with | some p => some (a :: p) | none => fsts F k (a + 1)) = _
  rw [h]
theorem fsts_n {F : Int → Option (List Int)} {k : Nat} {a : Int} (h : F a = none) : fsts F (k + 1) a = fsts F k (a + 1) := by
  show (match F a with | some p => some (a :: p) | none => fsts F k (a + 1)) = _
  rw [h]
/-- what a search below a depth leaves as it was -/
def kep (s s' : m_St) (q : Int) : Prop := (∀ c j, ¬ c = 89 → ¬ c = 90 → s' c j = s c j) ∧ (∀ e, e < q → s' 90 e = s 90 e) ∧ ∀ e, 0 ≤ e → e ≤ q → wt s' e = wt s e
/-- weights along a path -/
def along (k0 k1 R : Int) (s : m_St) : Int → List Int → Prop
  | _, [] => True
  | q, a :: p => s 90 q = a ∧ wt s (q + 1) = utw k0 k1 R (wt s q) a ∧ along k0 k1 R s (q + 1) p
theorem kep_tr {a b c : m_St} {q : Int} (h1 : kep a b q) (h2 : kep b c q) : kep a c q := ⟨fun x j c1 c2 => by rw [h2.1 x j c1 c2, h1.1 x j c1 c2], fun e he => by rw [h2.2.1 e he, h1.2.1 e he], fun e e0 he => by rw [h2.2.2 e e0 he, h1.2.2 e e0 he]⟩
theorem kep_dn {a b : m_St} {q : Int} (h : kep a b (q + 1)) (hq : 0 ≤ q) : kep a b q := ⟨h.1, fun e he => h.2.1 e (by omega), fun e e0 he => h.2.2 e e0 (by omega)⟩
theorem opk_kep {a b : m_St} {q k0 k1 R : Int} (h : opk a k0 k1 R) (e : ∀ c j, ¬ c = 89 → ¬ c = 90 → b c j = a c j) : opk b k0 k1 R := by
  unfold opk
  rw [e 88 0 (by decide) (by decide), e 88 1 (by decide) (by decide), e 38 5 (by decide) (by decide), e 83 7 (by decide) (by decide)]
  exact h
theorem wt_90 {s : m_St} {q v e : Int} : wt (m_upd s 90 q v) e = wt s e := by
  funext j
  unfold wt
  rw [upd_nc (by decide)]
theorem wt_go {s s' : m_St} {n e : Int} {w : Int → Int} (h : qGo s n w s') (e0 : 0 ≤ e) (hn : e ≤ n) : wt s' e = wt s e := by
  funext j
  unfold wt
  by_cases hj : 0 ≤ j ∧ j < 8
  · rw [if_pos hj, if_pos hj, h.1 89 _ (by omega)]
  · rw [if_neg hj, if_neg hj]
section ENUM
variable {X : List Int32} {d : Nat} {n k0 k1 R c : Int} {A : Int → (Option Value → m_St → Prop) → Prop}
theorem srch2 (n1 : 1 ≤ n) (n5 : n ≤ 5) (A01 : ∀ f P, A f P → f = 0 ∨ f = 1)
    (hN : ∀ f P s', A f P → opk s' k0 k1 R → w8 (wt s' n) → ¬ mcd k0 k1 c (wt s' n) → ∃ f2 P2, A f2 P2 ∧ (Rn X (d + 4) 227 23 [some (vR 77), some (vI n), some (vI f2), some (vI (n - 1))] [] s' P2 → P (some (vI 1)) s')) :
    ∀ (m : Nat) (k : Nat) (a q : Int) (s : m_St) (f : Int) (P : Option Value → m_St → Prop), A f P → q + m + 1 = n → a + k = 7 → -1 ≤ a → s 90 q = a → opk s k0 k1 R → w8 (wt s q) → 0 ≤ q →
      (fsts (gG k0 k1 R c m (wt s q)) k (a + 1) = none → ∀ s' f' P', A f' P' → kep s s' q → Rn X (d + 4) 227 23 [some (vR 77), some (vI n), some (vI f'), some (vI (q + (-1)))] [] s' P') →
      (∀ p, fsts (gG k0 k1 R c m (wt s q)) k (a + 1) = some p → ∀ s' f' P', A f' P' → kep s s' q → along k0 k1 R s' q p → w8 (wt s' n) → mcd k0 k1 c (wt s' n) → P' (some (vI 1)) s') →
      Rn X (d + 4) 227 23 [some (vR 77), some (vI n), some (vI f), some (vI q)] [] s P := by
  intro m
  induction m with
  | zero =>
    intro k
    induction k with
    | zero =>
      intro a q s f P hAf hq ha a1 sa ho hw q0 hE hF
      have hf01 := A01 f P hAf
      have fin := hE rfl (m_upd s 90 q (s 90 q + 1)) f P hAf ⟨fun x j c1 c2 => upd_nc c2, fun e he => upd_nj (by omega), fun e _ _ => wt_90⟩
      apply t_X6_nextTalk_23 (by omega) n5 <;> intros
      all_goals first | exact fin | omega
    | succ k ihk =>
      intro a q s f P hAf hq ha a1 sa ho hw q0 hE hF
      have hf01 := A01 f P hAf
      have hs1 : m_upd s 90 q (s 90 q + 1) = m_upd s 90 q (a + 1) := by rw [sa]
      have ho1 : opk (m_upd s 90 q (a + 1)) k0 k1 R := opk_kep (q := 0) ho (fun x j c1 c2 => upd_nc c2)
      have hoS : opS (m_upd s 90 q (a + 1)) := by unfold opS; rw [ho1.1, ho1.2.1, ho1.2.2.2.2.2.2.1]; exact ho1
      have hw1 : w8 (wt (m_upd s 90 q (a + 1)) q) := by rw [wt_90]; exact hw
      have hkeep : kep s (m_upd s 90 q (a + 1)) q := ⟨fun x j c1 c2 => upd_nc c2, fun e he => upd_nj (by omega), fun e _ _ => wt_90⟩
      have ehW : hW (m_upd s 90 q (a + 1)) q ((a + 1) / 4) = if (a + 1) / 4 = 0 then hA k0 (wt s q) else hB k1 (wt s q) := by
        unfold hW
        rw [ho1.1, ho1.2.1, wt_90]
      have cont : gG k0 k1 R c 0 (wt s q) (a + 1) = none → ∀ s' f' P', A f' P' → kep s s' q → s' 90 q = a + 1 → Rn X (d + 4) 227 23 [some (vR 77), some (vI n), some (vI f'), some (vI q)] [] s' P' := by
        intro hn s' f' P' hA' hk' hs'
        have ew : wt s' q = wt s q := hk'.2.2 q q0 (by omega)
        refine ihk (a + 1) q s' f' P' hA' hq (by omega) (by omega) hs' (opk_kep (q := 0) ho hk'.1) (by rw [ew]; exact hw) q0 (fun h0 s2 f2 P2 hA2 hk2 => ?_) (fun p hp s2 f2 P2 hA2 hk2 => ?_)
        · rw [ew] at h0
          exact hE (by rw [fsts_n hn]; exact h0) s2 f2 P2 hA2 (kep_tr hk' hk2)
        · rw [ew] at hp
          exact hF p (by rw [fsts_n hn]; exact hp) s2 f2 P2 hA2 (kep_tr hk' hk2)
      by_cases hcan : cnb k0 k1 (wt s q) (a + 1)
      · have hb : iAnd (iShr (hW (m_upd s 90 q (a + 1)) q ((a + 1) / 4)) ((a + 1) % 4)) 1 = 1 := by rw [ehW]; exact hcan
        have leaf : ∀ s2, qGo (m_upd s 90 q (a + 1)) q (uW (m_upd s 90 q (a + 1)) q (a + 1)) s2 → P (some (vI 1)) s2 := by
          intro s2 hgo
          have huW : uW (m_upd s 90 q (a + 1)) q (a + 1) = utw k0 k1 R (wt s q) (a + 1) := by
            unfold uW
            rw [ho1.1, ho1.2.1, ho1.2.2.2.2.2.2.1, wt_90]
          have e2 : wt s2 (q + 1) = utw k0 k1 R (wt s q) (a + 1) := by rw [hgo.2, huW]
          have f2 : ∀ x j, ¬ x = 89 → ¬ x = 90 → s2 x j = s x j := fun x j c1 c2 => by rw [hgo.1 x j (by omega), upd_nc c2]
          have k2 : kep s s2 q := ⟨f2, fun e he => by rw [hgo.1 90 e (by omega), upd_nj (by omega)], fun e e0 he => by rw [wt_go hgo e0 he, wt_90]⟩
          have p2 : s2 90 q = a + 1 := by rw [hgo.1 90 q (by omega), upd_eq]
          have en : n = q + 1 := by omega
          have w2 : w8 (wt s2 n) := by rw [en, e2]; exact w8_utw hw
          have ho2 := opk_kep (q := 0) ho f2
          by_cases hm : mcd k0 k1 c (wt s2 n)
          · have hm2 := hm
            rw [en, e2] at hm2
            refine hF [a + 1] (fsts_s (by rw [gG_y hcan, gF_y hm2])) s2 f P hAf k2 ⟨p2, ?_, trivial⟩ w2 hm
            rw [e2, k2.2.2 q q0 (by omega)]
          · have hm2 := hm
            rw [en, e2] at hm2
            obtain ⟨f3, P3, hA3, h3⟩ := hN f P s2 hAf ho2 w2 hm
            refine h3 ?_
            rw [show n - 1 = q by omega]
            exact cont (by rw [gG_y hcan, gF_n hm2]) s2 f3 P3 hA3 k2 p2
        apply t_X6_nextTalk_23 (by omega) n5 <;> intros
        all_goals (try rw [sa] at *)
        all_goals first | (exact leaf _ (by assumption)) | exact hoS | exact hw1 | exact absurd hb (by assumption) | omega
      · have hb : ¬ iAnd (iShr (hW (m_upd s 90 q (a + 1)) q ((a + 1) / 4)) ((a + 1) % 4)) 1 = 1 := by rw [ehW]; exact hcan
        have fin := cont (gG_n hcan) (m_upd s 90 q (a + 1)) f P hAf hkeep upd_eq
        apply t_X6_nextTalk_23 (by omega) n5 <;> intros
        all_goals (try rw [sa] at *)
        all_goals first | exact fin | exact hoS | exact hw1 | exact absurd (by assumption) hb | omega
  | succ m ihm =>
    intro k
    induction k with
    | zero =>
      intro a q s f P hAf hq ha a1 sa ho hw q0 hE hF
      have hf01 := A01 f P hAf
      have fin := hE rfl (m_upd s 90 q (s 90 q + 1)) f P hAf ⟨fun x j c1 c2 => upd_nc c2, fun e he => upd_nj (by omega), fun e _ _ => wt_90⟩
      apply t_X6_nextTalk_23 (by omega) n5 <;> intros
      all_goals first | exact fin | omega
    | succ k ihk =>
      intro a q s f P hAf hq ha a1 sa ho hw q0 hE hF
      have hf01 := A01 f P hAf
      have ho1 : opk (m_upd s 90 q (a + 1)) k0 k1 R := opk_kep (q := 0) ho (fun x j c1 c2 => upd_nc c2)
      have hoS : opS (m_upd s 90 q (a + 1)) := by unfold opS; rw [ho1.1, ho1.2.1, ho1.2.2.2.2.2.2.1]; exact ho1
      have hw1 : w8 (wt (m_upd s 90 q (a + 1)) q) := by rw [wt_90]; exact hw
      have hkeep : kep s (m_upd s 90 q (a + 1)) q := ⟨fun x j c1 c2 => upd_nc c2, fun e he => upd_nj (by omega), fun e _ _ => wt_90⟩
      have ehW : hW (m_upd s 90 q (a + 1)) q ((a + 1) / 4) = if (a + 1) / 4 = 0 then hA k0 (wt s q) else hB k1 (wt s q) := by
        unfold hW
        rw [ho1.1, ho1.2.1, wt_90]
      have cont : gG k0 k1 R c (m + 1) (wt s q) (a + 1) = none → ∀ s' f' P', A f' P' → kep s s' q → s' 90 q = a + 1 → Rn X (d + 4) 227 23 [some (vR 77), some (vI n), some (vI f'), some (vI q)] [] s' P' := by
        intro hn s' f' P' hA' hk' hs'
        have ew : wt s' q = wt s q := hk'.2.2 q q0 (by omega)
        refine ihk (a + 1) q s' f' P' hA' hq (by omega) (by omega) hs' (opk_kep (q := 0) ho hk'.1) (by rw [ew]; exact hw) q0 (fun h0 s2 f2 P2 hA2 hk2 => ?_) (fun p hp s2 f2 P2 hA2 hk2 => ?_)
        · rw [ew] at h0
          exact hE (by rw [fsts_n hn]; exact h0) s2 f2 P2 hA2 (kep_tr hk' hk2)
        · rw [ew] at hp
          exact hF p (by rw [fsts_n hn]; exact hp) s2 f2 P2 hA2 (kep_tr hk' hk2)
      by_cases hcan : cnb k0 k1 (wt s q) (a + 1)
      · have hb : iAnd (iShr (hW (m_upd s 90 q (a + 1)) q ((a + 1) / 4)) ((a + 1) % 4)) 1 = 1 := by rw [ehW]; exact hcan
        have down : ∀ s2, qGo (m_upd s 90 q (a + 1)) q (uW (m_upd s 90 q (a + 1)) q (a + 1)) s2 → Rn X (d + 4) 227 23 [some (vR 77), some (vI n), some (vI f), some (vI (q + 1))] [] (m_upd s2 90 (q + 1) (-1)) P := by
          intro s2 hgo
          have huW : uW (m_upd s 90 q (a + 1)) q (a + 1) = utw k0 k1 R (wt s q) (a + 1) := by
            unfold uW
            rw [ho1.1, ho1.2.1, ho1.2.2.2.2.2.2.1, wt_90]
          have e2 : wt (m_upd s2 90 (q + 1) (-1)) (q + 1) = utw k0 k1 R (wt s q) (a + 1) := by rw [wt_90, hgo.2, huW]
          have f2 : ∀ x j, ¬ x = 89 → ¬ x = 90 → m_upd s2 90 (q + 1) (-1) x j = s x j := fun x j c1 c2 => by rw [upd_nc c2, hgo.1 x j (by omega), upd_nc c2]
          have k2 : kep s (m_upd s2 90 (q + 1) (-1)) q := ⟨f2, fun e he => by rw [upd_nj (by omega), hgo.1 90 e (by omega), upd_nj (by omega)], fun e e0 he => by rw [wt_90, wt_go hgo e0 he, wt_90]⟩
          have p2 : m_upd s2 90 (q + 1) (-1) 90 q = a + 1 := by rw [upd_nj (by omega), hgo.1 90 q (by omega), upd_eq]
          refine ihm 8 (-1) (q + 1) _ f P hAf (by omega) (by omega) (by omega) upd_eq (opk_kep (q := 0) ho f2) (by rw [e2]; exact w8_utw hw) (by omega) (fun h0 s3 f3 P3 hA3 hk3 => ?_) (fun p hp s3 f3 P3 hA3 hk3 hal hw3 hm => ?_)
          · rw [e2] at h0
            rw [show q + 1 + -1 = q by omega]
            exact cont (by rw [gG_y hcan]; exact h0) s3 f3 P3 hA3 (kep_tr k2 (kep_dn hk3 q0)) (by rw [hk3.2.1 q (by omega), p2])
          · rw [e2] at hp
            refine hF ((a + 1) :: p) (fsts_s (by rw [gG_y hcan]; exact hp)) s3 f3 P3 hA3 (kep_tr k2 (kep_dn hk3 q0)) ⟨by rw [hk3.2.1 q (by omega), p2], ?_, hal⟩ hw3 hm
            rw [hk3.2.2 (q + 1) (by omega) (by omega), e2, hk3.2.2 q q0 (by omega), k2.2.2 q q0 (by omega)]
        apply t_X6_nextTalk_23 (by omega) n5 <;> intros
        all_goals (try rw [sa] at *)
        all_goals first | (exact down _ (by assumption)) | exact hoS | exact hw1 | exact absurd hb (by assumption) | omega
      · have hb : ¬ iAnd (iShr (hW (m_upd s 90 q (a + 1)) q ((a + 1) / 4)) ((a + 1) % 4)) 1 = 1 := by rw [ehW]; exact hcan
        have fin := cont (gG_n hcan) (m_upd s 90 q (a + 1)) f P hAf hkeep upd_eq
        apply t_X6_nextTalk_23 (by omega) n5 <;> intros
        all_goals (try rw [sa] at *)
        all_goals first | exact fin | exact hoS | exact hw1 | exact absurd (by assumption) hb | omega
end ENUM
