/-! the reference reads: figures, blanks -/
def fgS (s : m_St) (t h : Int) : m_St := if ¬ s 77 19 = 0 ∧ 48 ≤ lkM s t ∧ lkM s t ≤ 48 + h then m_upd (m_upd s 77 19 1) 77 18 (s 77 18 + 1) else m_upd (m_upd s 77 19 0) 77 18 (s 77 18)
def skS (s : m_St) (t : Int) : m_St := if s 77 19 = 0 then s else m_upd s 77 18 (skb (s 81 t) (fun j => s 82 (60 * t + j)) (s 77 18))
section SPRB
variable {X : List Int32} {d : Nat} {s : m_St} {P : Option Value → m_St → Prop} {t h : Int}
theorem sp_figureM (t0 : 0 ≤ t) (t4 : t < 4) (hk : rdk s t) (h0 : 0 ≤ h) (h9 : h ≤ 9) (kk : P (some (vI (lkM s t - 48))) (fgS s t h)) : Cl X (d + 1) 177 [vR 77, vI t, vI h] s P := by
  have hl := lkM_r hk
  have hk2 := hk
  obtain ⟨h1, h2, h3, h4, h5, h6⟩ := hk
  unfold fgS at kk
  by_cases hc : ¬ s 77 19 = 0 ∧ 48 ≤ lkM s t ∧ lkM s t ≤ 48 + h
  · rw [if_pos hc] at kk
    apply t_X6_figure t0 t4 h1 <;> intros
    all_goals first | exact hk2 | omega | exact kk
  · rw [if_neg hc] at kk
    apply t_X6_figure t0 t4 h1 <;> intros
    all_goals first | exact hk2 | exact kk | omega
theorem sp_skipsM (t0 : 0 ≤ t) (t4 : t < 4) (hk : rdk s t) (kk : P none (skS s t)) : Cl X (d + 1) 175 [vR 77, vI t] s P := by
  have e175 : m_ent 175 [vR 77, vI t] = [some (vR 77), some (vI t)] := by
    unfold m_ent
    rw [n_175]
    rfl
  have loop : ∀ (m : Nat) (s : m_St), rdk s t → s 81 t - s 77 18 ≤ m → P none (skS s t) → Cl X (d + 1) 175 [vR 77, vI t] s P := by
    intro m
    induction m with
    | zero =>
      intro s hk hm hp
      obtain ⟨h1, h2, h3, h4, h5, h6⟩ := hk
      have hl : lkM s t = -1000 := by unfold lkM; rw [if_neg (by omega)]
      unfold skS at hp
      by_cases hw : s 77 19 = 0
      · rw [if_pos hw] at hp
        apply t_X6_skips t0 t4 h1 <;> intros
        all_goals first | omega | exact hp
      · rw [if_neg hw, skb_no (by omega), upd_self] at hp
        apply t_X6_skips t0 t4 h1 <;> intros
        all_goals first | omega | exact hp | exact ⟨h1, h2, h3, h4, h5, h6⟩
    | succ m ih =>
      intro s hk hm hp
      have hl := lkM_r hk
      have hk2 := hk
      obtain ⟨h1, h2, h3, h4, h5, h6⟩ := hk
      unfold skS at hp
      by_cases hw : s 77 19 = 0
      · rw [if_pos hw] at hp
        apply t_X6_skips t0 t4 h1 <;> intros
        all_goals first | omega | exact hp
      · rw [if_neg hw] at hp
        by_cases hb : s 77 18 < s 81 t ∧ s 82 (60 * t + s 77 18) = 32
        · have hl2 : lkM s t = 32 := by unfold lkM; rw [if_pos hb.1]; exact hb.2
          rw [skb_up hb.1 hb.2] at hp
          apply t_X6_skips t0 t4 h1 <;> intros
          all_goals first | omega | exact hk2 | skip
          have e1 : ∀ c j, ¬ (c = 77 ∧ j = 18) → m_upd s 77 18 (s 77 18 + 1) c j = s c j := fun c j hc => upd_o2 hc
          have hx := ih (m_upd s 77 18 (s 77 18 + 1)) (by
            unfold rdk
            rw [upd_eq, e1 81 t (by omega), e1 77 19 (by decide)]
            refine ⟨by omega, by omega, h3, h4, h5, fun j j0 j1 => ?_⟩
            rw [e1 82 _ (by omega)]
            exact h6 j j0 j1) (by rw [upd_eq, e1 81 t (by omega)]; omega) (by
            unfold skS
            rw [e1 77 19 (by decide), if_neg hw, upd_eq, e1 81 t (by omega), upd2]
            rw [show (fun j => m_upd s 77 18 (s 77 18 + 1) 82 (60 * t + j)) = fun j => s 82 (60 * t + j) from funext fun j => e1 _ _ (by omega)]
            exact hp)
          unfold Cl at hx
          rw [e175] at hx
          exact hx
        · have hl2 : ¬ lkM s t = 32 := by unfold lkM; split; exact fun z => hb ⟨by assumption, z⟩; decide
          rw [skb_no hb, upd_self] at hp
          apply t_X6_skips t0 t4 h1 <;> intros
          all_goals first | omega | exact hk2 | exact hp
  exact loop (s 81 t - s 77 18).toNat s hk (by omega) kk
end SPRB
