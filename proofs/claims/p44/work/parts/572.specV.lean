/-! two up: put aside, what both hold, what can be said, what is done -/
def upk (s : m_St) : Prop := 0 ≤ s 38 7 ∧ s 38 7 < 6 ∧ 0 ≤ s 38 8 ∧ s 38 8 < 6 ∧ ∀ i, 0 ≤ i → i < 6 → gok s (44 + 4 * i)
def ugk (s : m_St) : Prop := upk s ∨ s 38 7 = -1
def tka (s : m_St) : m_St := btw s (44 + 4 * s 38 7) (44 + 4 * s 38 8) (s 38 5)
def shd (s : m_St) : Int := iAnd (s (44 + 4 * s 38 7) 2) (s (44 + 4 * s 38 8) 2)
def csh (s : m_St) (a : Int) : Int := if s 38 7 = -1 then 0 else if iAnd (iShr (s (44 + 4 * (if a < 4 then s 38 7 else s 38 8)) 2) (a % 4)) 1 = 0 then 0 else 1
theorem inR_csh (s : m_St) (a : Int) : inR (csh s a) := by
  have : csh s a = 0 ∨ csh s a = 1 := by
    unfold csh
    repeat' split
    all_goals first | exact Or.inl rfl | exact Or.inr rfl
  omega
def acs (s : m_St) (a : Int) : m_St := pf (m_upd (m_upd s 41 (s 38 9) a) 38 9 (s 38 9 + 1)) a
section SPV
variable {X : m_X} {d : Nat} {s : m_St} {P : Option Value → m_St → Prop} {a : Int}
theorem sp_takeAside (h : upk s) (k : P none (tka s)) : Cl X (d + 5) 98 [vR 0] s P := by
  obtain ⟨u0, u6, v0, v6, g⟩ := h
  exact t_X5_takeAside u0 u6 v0 v6 (by omega) (by omega) (g _ u0 u6) (g _ v0 v6) (by omega) (by omega) k
theorem sp_shared (h : upk s) (k : P (some (vI (shd s))) s) : Cl X (d + 2) 83 [vR 38] s P := by
  obtain ⟨u0, u6, v0, v6, g⟩ := h
  exact t_X1_shared u0 u6 v0 v6 (by omega) (by omega) (fun _ => by omega) (fun _ => k)
theorem sp_canSayH (h : ugk s) (h0 : 0 ≤ a) (h8 : a < 8) (k : P (some (vI (csh s a))) s) : Cl X (d + 2) 87 [vR 38, vI a] s P := by
  rcases h with ⟨u0, u6, v0, v6, g⟩ | h
  · have hn : ¬ s 38 7 = -1 := by omega
    have kA : a < 4 → iAnd (iShr (s (44 + 4 * s 38 7) 2) (a % 4)) 1 = 0 → P (some (vI 0)) s := fun q1 q2 => PI k (by unfold csh; rw [if_neg hn, if_pos q1, if_pos q2])
    have kB : a < 4 → ¬ iAnd (iShr (s (44 + 4 * s 38 7) 2) (a % 4)) 1 = 0 → P (some (vI 1)) s := fun q1 q2 => PI k (by unfold csh; rw [if_neg hn, if_pos q1, if_neg q2])
    have kC : 4 ≤ a → iAnd (iShr (s (44 + 4 * s 38 8) 2) (a % 4)) 1 = 0 → P (some (vI 0)) s := fun q1 q2 => PI k (by unfold csh; rw [if_neg hn, if_neg (show ¬ a < 4 by omega), if_pos q2])
    have kD : 4 ≤ a → ¬ iAnd (iShr (s (44 + 4 * s 38 8) 2) (a % 4)) 1 = 0 → P (some (vI 1)) s := fun q1 q2 => PI k (by unfold csh; rw [if_neg hn, if_neg (show ¬ a < 4 by omega), if_neg q2])
    apply t_X1_canSay u0 u6 v0 v6 <;> intros
    all_goals first | omega | (exact kA (by assumption) (by assumption)) | (exact kB (by assumption) (by assumption)) | (exact kC (by assumption) (by assumption)) | (exact kD (by assumption) (by assumption))
  · exact t_canSayN h (by omega) (PI k (by unfold csh; rw [if_pos h]))
theorem sp_act (c0 : 0 ≤ s 38 9) (c4 : s 38 9 < 40) (h0 : 0 ≤ a) (ra : inR a) (hu : a < 8 → upk s) (hg : ∀ i, 0 ≤ i → i < 6 → gok s (44 + 4 * i)) (k : P none (acs s a)) : Cl X (d + 4) 82 [vR 38, vI a] s P := by
  have e : ∀ c j, ¬ c = 41 → ¬ (c = 38 ∧ j = 9) → m_upd (m_upd s 41 (s 38 9) a) 38 9 (s 38 9 + 1) c j = s c j := fun c j h1 h2 => by rw [upd_o2 h2, upd_nc h1]
  refine t_X1_act c0 c4 (by omega) h0 ra (fun h8 => ?_) (fun _ i i0 i6 => ?_) k
  · obtain ⟨u0, u6, v0, v6, _⟩ := hu h8
    rw [e 38 7 (by omega) (by omega), e 38 8 (by omega) (by omega)]
    exact ⟨u0, u6, v0, v6⟩
  · exact gok_cong (fun j => e _ _ (by omega) (by omega)) (fun j => e _ _ (by omega) (by omega)) (hg i i0 i6)
end SPV
