/-! calls side by side: by turns, whole -/
section OPZ
variable {X : List Int32} {d : Nat} {s : m_St} {P : Option Value → m_St → Prop} {n : Int}
theorem duel_I (n0 : 0 ≤ n) (n5 : n ≤ 5) : ∀ (m : Nat) (k : Int) (s : m_St), 0 ≤ k → k + m = 6 → (∀ s', (∀ x j, ¬ (x = 90 ∧ k ≤ j) → ¬ (x = 91 ∧ k ≤ j) → s' x j = s x j) → (∀ e, k ≤ e → e < 6 → s' 90 e = -1 ∧ s' 91 e = -9) → Rn X (d + 4) 238 56 [some (vR 77), some (vI n), some (vI 0), some (vI 6)] [] s' P) → Rn X (d + 4) 238 29 [some (vR 77), some (vI n), some (vI 0), some (vI k)] [] s P := by
  intro m
  induction m with
  | zero =>
    intro k s k0 hk hK
    have h6 : k = 6 := by omega
    subst h6
    have h := hK s (fun _ _ _ _ => rfl) (fun e h1 h2 => by omega)
    clear hK
    apply t_X6_duel_29 n0 n5 k0 <;> intros
    all_goals first | exact h | omega
  | succ m ih =>
    intro k s k0 hk hK
    have h := ih (k + 1) (m_upd (m_upd s 91 k (-9)) 90 k (-1)) (by omega) (by omega) (fun s' h1 h2 => hK s' (fun x j c1 c2 => by rw [h1 x j (by omega) (by omega), upd_o2 (by omega), upd_o2 (by omega)]) (fun e e1 e2 => by
      by_cases he : e = k
      · subst he
        exact ⟨by rw [h1 90 e (by omega) (by omega), upd_eq], by rw [h1 91 e (by omega) (by omega), upd_nc (by decide), upd_eq]⟩
      · exact h2 e (by omega) e2))
    clear hK ih
    apply t_X6_duel_29 n0 n5 k0 <;> intros
    all_goals first | exact h | omega
theorem op_duel (h : J s) (rn : inR n) : Cl X (d + 20) 132 [vR 0, vI n] s (Pw X (d + 20) 238 [vR 77, vI n]) := by
  have h7 := J_7 h
  have u60 : s 83 5 ≤ 6 := h7.2.2.1
  have base : ∀ v, (v = -1 ∧ (n < 0 ∨ 5 < n)) ∨ (v = -4 ∧ 0 ≤ n ∧ n ≤ 5 ∧ s 83 5 ≤ 0) → Pw X (d + 20) 238 [vR 77, vI n] (some (vI v)) s := by
    intro v hv
    rcases hv with ⟨rfl, hv⟩ | ⟨rfl, hv⟩
    · refine Pw_mk ?_
      apply t_X6_duel <;> intros
      all_goals first | exact rn | omega | exact ⟨rfl, h⟩
    · refine Pw_mk ?_
      apply t_X6_duel <;> intros
      all_goals first | exact rn | omega | exact ⟨rfl, h⟩
  by_cases hb : 0 ≤ n ∧ n ≤ 5
  · obtain ⟨n0, n5⟩ := hb
    by_cases hu : s 38 7 = -1
    · have fin := base (-4) (Or.inr ⟨rfl, n0, n5, by omega⟩)
      clear base
      apply t_X5_duel <;> intros
      all_goals first | exact rn | omega | exact fin
    · clear base
      obtain ⟨hup, huk, e7, e8, l7, l8⟩ := J_up h hu
      have u := huk.u
      have h06 := huk.1.1.2.1
      obtain ⟨Jt, _, _⟩ := J_tka h hu
      have ht := tpr_tka h hu
      have hw0 : w8 (W0 (s 83) (s 83 5 - 1) (s 83 6 - 1)) := w8_W0 huk.1 u.1 u.2.1 u.2.2.1 u.2.2.2
      generalize hk0 : s 83 (8 + 5 * (s 83 5 - 1)) = k0 at ht
      generalize hk1 : s 83 (8 + 5 * (s 83 6 - 1)) = k1 at ht
      generalize hW : W0 (s 83) (s 83 5 - 1) (s 83 6 - 1) = W at ht hw0
      have e83 : tka s 83 = s 83 := funext fun q => tka_o (by omega)
      have e38 : tka s 38 5 = s 38 5 := tka_o (by omega)
      have eB : bFs (tka s) n 1 = gB k0 k1 (s 38 5) n.toNat (flq 0) W := by
        unfold bFs
        rw [ht.2.1, ht.2.2.1, ht.2.2.2.1, bF_eqv _ _ _ _ (eqv_tpr ht), gB_bF _ _ _ hw0]
        rfl
      have opn : ∀ s9, qOp (tka s) (tka s 83 5 - 1) (tka s 83 6 - 1) s9 → Rn X (d + 20) 238 29 [some (vR 77), some (vI n), some (vI 0), some (vI 0)] [] s9 (fun v2 s2 => v2 = some (vI (bFs (tka s) n 1)) ∧ J s2) := by
        intro s9 hq
        rw [e83] at hq
        obtain ⟨ho, hw9, hw8⟩ := opk_of huk.1 u.1 u.2.1 u.2.2.1 u.2.2.2 hq e83 e38
        rw [hk0, hk1] at ho
        rw [hW] at hw9
        refine duel_I (d := d + 16) n0 n5 6 0 s9 (by decide) (by decide) (fun s8 f8 i8 => ?_)
        have w8e : wt s8 0 = wt s9 0 := by
          funext j
          unfold wt
          rw [f8 89 _ (by omega) (by omega)]
        refine duel_M (d := d + 16) n0 n5 n.toNat 0 s8 6 (by decide) (by omega) (opk_kpD ho (fun x j _ c2 c3 => f8 x j (by omega) (by omega))) (by rw [w8e]; exact hw8) (fun e e0 e1 => i8 e e0 (by omega)) (fun e e0 e1 => by omega) (fun s' k' f' => ⟨fun _ => ?_, fun z => by omega⟩)
        rw [w8e, hw9, ← eB]
        have fin : ∀ x j, ¬ (88 ≤ x ∧ x ≤ 91) → s' x j = tka s x j := fun x j hx => by rw [k'.1 x j (by omega) (by omega) (by omega), f8 x j (by omega) (by omega), hq.1 x j (by omega) (by omega)]
        exact ⟨rfl, J_scr Jt (fun x j _ _ _ c4 _ => fin x j c4) (tkok_cong (fun x j x0 x1 => fin x j (by omega)) Jt.2.2.2.2.2.2.1) (fun i => by rw [fin 72 i (by omega)]; exact Jt.2.2.2.2.2.2.2 i)⟩
      have x5 : tka s 83 5 = s 83 5 := by rw [e83]
      have x6 : tka s 83 6 = s 83 6 := by rw [e83]
      have mid : Pw X (d + 20) 238 [vR 77, vI n] (some (vI (bFs (tka s) n 1))) (tka s) := by
        refine Pw_mk ?_
        apply t_X6_duel <;> intros
        all_goals first | exact rn | omega | (exact opn _ (by assumption))
      clear opn
      apply t_X5_duel <;> intros
      all_goals first | exact rn | omega | exact hup | exact Jt.2.2.2.2.2.2.1 | exact mid
  · have hbn : n < 0 ∨ 5 < n := by omega
    have fin := base (-1) (Or.inl ⟨rfl, hbn⟩)
    clear base
    apply t_X5_duel <;> intros
    all_goals first | exact rn | exact fin | omega
end OPZ
