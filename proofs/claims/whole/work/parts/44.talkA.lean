/-! two put aside: what they hold, what a saying does and how it is taken back -/
def hgr (a : Int) : Int := if a < 4 then 69 else 67
def olw (s : m_St) (a : Int) : Int := s (hgr a + 1) (a % 4)
def utS (s : m_St) (a : Int) : m_St := wg s (hgr a) (a % 4) (olw s a + mv (s (hgr a) 1) (s (hgr a) 2) (s 66 2) (a % 4))
def tbS (s : m_St) (a w : Int) : m_St := wg s (hgr a) (a % 4) w
def tkok (s : m_St) : Prop := gok s 67 ∧ gok s 69
def tng (s : m_St) : Int := iOr (iAnd (s 67 2) (iXor (s 69 2) (-1))) (iShl (iAnd (s 69 2) (iXor (s 67 2) (-1))) 4)
def cns (s : m_St) (a : Int) : Int := if 0 ≤ a ∧ a < 8 ∧ ¬ iAnd (iShr (s (if a < 4 then 67 else 69) 2) (a % 4)) 1 = 0 then 1 else 0
theorem cns_r (s : m_St) (a : Int) : cns s a = 0 ∨ cns s a = 1 := by unfold cns; split <;> omega
theorem inR_cns (s : m_St) (a : Int) : inR (cns s a) := by have := cns_r s a; omega
section TKA
variable {X : List Int32} {d : Nat} {s : m_St} {P : Option Value → m_St → Prop} {a w : Int}
theorem sp_utter (h : tkok s) (h0 : 0 ≤ a) (h8 : a < 8) (k : P (some (vI (olw s a))) (utS s a)) : Cl X (d + 3) 109 [vR 66, vI a] s P := by
  by_cases h4 : a < 4
  · have e : hgr a = 69 := if_pos h4
    unfold utS olw at k
    rw [e] at k
    apply t_X4_utter <;> intros <;> first | exact h.2 | exact k | omega
  · have e : hgr a = 67 := if_neg h4
    unfold utS olw at k
    rw [e] at k
    apply t_X4_utter <;> intros <;> first | exact h.1 | exact k | omega
theorem sp_takeBack (h : tkok s) (h0 : 0 ≤ a) (h8 : a < 8) (rw_ : inR w) (k : P none (tbS s a w)) : Cl X (d + 2) 114 [vR 66, vI a, vI w] s P := by
  by_cases h4 : a < 4
  · have e : hgr a = 69 := if_pos h4
    unfold tbS at k
    rw [e] at k
    apply t_X4_takeBack <;> intros <;> first | exact h.2 | exact k | omega
  · have e : hgr a = 67 := if_neg h4
    unfold tbS at k
    rw [e] at k
    apply t_X4_takeBack <;> intros <;> first | exact h.1 | exact k | omega
theorem sp_turning (k : P (some (vI (tng s))) s) : Cl X (d + 1) 113 [vR 66] s P := t_X4_turning k
theorem sp_canSayT (ra : inR a) (k : P (some (vI (cns s a))) s) : Cl X (d + 1) 108 [vR 66, vI a] s P := by
  unfold cns at k
  apply t_X4_canSay <;> intros
  · exact ra
  · rw [if_neg (by omega)] at k; exact k
  · rw [if_neg (by omega)] at k; exact k
  · next h1 h2 h3 h4 => rw [if_neg (fun z => z.2.2 (by rw [if_neg (by omega)]; exact h4))] at k; exact k
  · next h1 h2 h3 h4 => rw [if_pos ⟨by omega, by omega, by rw [if_neg (by omega)]; exact h4⟩] at k; exact k
  · next h1 h2 h3 h4 => rw [if_neg (fun z => z.2.2 (by rw [if_pos h3]; exact h4))] at k; exact k
  · next h1 h2 h3 h4 => rw [if_pos ⟨by omega, by omega, by rw [if_pos h3]; exact h4⟩] at k; exact k
end TKA
theorem hgr_r (a : Int) : hgr a = 67 ∨ hgr a = 69 := by unfold hgr; split <;> omega
theorem tkok.g {s : m_St} (h : tkok s) (a : Int) : gok s (hgr a) := by
  unfold hgr
  split
  · exact h.2
  · exact h.1
theorem tkok_wg {s : m_St} {a c w : Int} (h : tkok s) : tkok (wg s (hgr a) c w) := by
  unfold hgr
  split
  · exact ⟨gok_cong (fun j => wg_o (by omega) (by omega)) (fun j => wg_o (by omega) (by omega)) h.1, gok_wg h.2⟩
  · exact ⟨gok_wg h.1, gok_cong (fun j => wg_o (by omega) (by omega)) (fun j => wg_o (by omega) (by omega)) h.2⟩
theorem tkok_utS {s : m_St} {a : Int} (h : tkok s) : tkok (utS s a) := tkok_wg h
theorem tkok_cong {s t : m_St} (e : ∀ c j, 67 ≤ c → c ≤ 70 → t c j = s c j) (h : tkok s) : tkok t := ⟨gok_cong (fun j => e _ _ (by omega) (by omega)) (fun j => e _ _ (by omega) (by omega)) h.1, gok_cong (fun j => e _ _ (by omega) (by omega)) (fun j => e _ _ (by omega) (by omega)) h.2⟩
theorem utS_o {s : m_St} {a c j : Int} (h : ¬ (67 ≤ c ∧ c ≤ 70)) : utS s a c j = s c j := by
  have := hgr_r a
  exact wg_o (by omega) (by omega)
/-- taken back: as it was -/
theorem tb_gen {s t : m_St} {a : Int} (h : tkok s) (h0 : 0 ≤ a) (e : ∀ c j, 67 ≤ c → c ≤ 70 → t c j = utS s a c j) (c j : Int) : tbS t a (olw s a) c j = if 67 ≤ c ∧ c ≤ 70 then s c j else t c j := by
  have hg := hgr_r a
  have hk := h.g a
  have hw := hk.2.2.2 (a % 4) (by omega) (by omega)
  have hcl : cl (olw s a) = olw s a := by unfold cl olw; omega
  have e1 : ∀ j, t (hgr a + 1) j = utS s a (hgr a + 1) j := fun j => e _ _ (by omega) (by omega)
  have e2 : t (hgr a) 1 = s (hgr a) 1 := by rw [e _ _ (by omega) (by omega)]; unfold utS; exact wg_1
  have hwt : ∀ j, tbS t a (olw s a) (hgr a + 1) j = s (hgr a + 1) j := fun j => by
    unfold tbS
    rw [wg_w]
    by_cases hj : j = a % 4
    · rw [if_pos hj, hcl, hj]
      rfl
    · rw [if_neg hj, e1]
      unfold utS
      rw [wg_w, if_neg hj]
  by_cases hc1 : c = hgr a + 1
  · subst hc1
    rw [if_pos (by omega)]
    exact hwt j
  · by_cases hc0 : c = hgr a
    · subst hc0
      rw [if_pos (by omega)]
      by_cases hj : j = 2
      · subst hj
        unfold tbS
        rw [wg_2, hk.2.2.1, e2]
        refine hset_cong fun x x0 x1 => ?_
        have := hwt x
        unfold tbS at this
        rw [wg_w] at this
        unfold m_upd
        by_cases hx : x = a % 4
        · rw [if_pos ⟨rfl, hx⟩]
          rw [if_pos hx] at this
          exact this
        · rw [if_neg (fun z => hx z.2)]
          rw [if_neg hx] at this
          exact this
      · unfold tbS wg
        rw [upd_nj hj, upd_nc (by omega), e _ _ (by omega) (by omega)]
        unfold utS wg
        rw [upd_nj hj, upd_nc (by omega)]
    · unfold tbS
      rw [wg_o hc0 hc1]
      split
      · rw [e _ _ (by omega) (by omega)]
        unfold utS
        exact wg_o hc0 hc1
      · rfl
theorem tb_ut {s : m_St} {a : Int} (h : tkok s) (h0 : 0 ≤ a) : tbS (utS s a) a (olw s a) = s := by
  funext c j
  rw [tb_gen h h0 (fun _ _ _ _ => rfl)]
  split
  · rfl
  · exact utS_o (by assumption)
theorem olw_r {s : m_St} {a : Int} (h : tkok s) : inR (olw s a) := by
  have := (h.g a).2.2.2 (a % 4) (by omega) (by omega)
  unfold olw
  omega
-- ----- the pair as eight numbers -----
def hA (k0 : Int) (w : Int → Int) : Int := hset w (hf k0)
def hB (k1 : Int) (w : Int → Int) : Int := hset (fun c => w (4 + c)) (hf k1)
def ixw (a : Int) : Int := if a < 4 then 4 + a else a - 4
def utw (k0 k1 R : Int) (w : Int → Int) (a : Int) : Int → Int := setf w (ixw a) (cl (w (ixw a) + (if a < 4 then mv k1 (hB k1 w) R (a % 4) else mv k0 (hA k0 w) R (a % 4))))
def tpr (s : m_St) (k0 k1 R : Int) (w : Int → Int) : Prop := tkok s ∧ s 67 1 = k0 ∧ s 69 1 = k1 ∧ s 66 2 = R ∧ ∀ c, 0 ≤ c → c < 4 → s 68 c = w c ∧ s 70 c = w (4 + c)
theorem tpr_h {s : m_St} {k0 k1 R : Int} {w : Int → Int} (h : tpr s k0 k1 R w) : s 67 2 = hA k0 w ∧ s 69 2 = hB k1 w := by
  obtain ⟨⟨h1, h2⟩, h3, h4, -, h5⟩ := h
  rw [h1.2.2.1, h2.2.2.1, h3, h4]
  exact ⟨hset_cong fun c c0 c1 => (h5 c c0 c1).1, hset_cong fun c c0 c1 => (h5 c c0 c1).2⟩
theorem tpr_cong {s t : m_St} {k0 k1 R : Int} {w : Int → Int} (e : ∀ c j, 67 ≤ c → c ≤ 70 → t c j = s c j) (e2 : t 66 2 = s 66 2) (h : tpr s k0 k1 R w) : tpr t k0 k1 R w := by
  obtain ⟨h1, h3, h4, h5, h6⟩ := h
  refine ⟨tkok_cong e h1, by rw [e _ _ (by omega) (by omega)]; exact h3, by rw [e _ _ (by omega) (by omega)]; exact h4, by rw [e2]; exact h5, fun c c0 c1 => ?_⟩
  rw [e _ _ (by omega) (by omega), e _ _ (by omega) (by omega)]
  exact h6 c c0 c1
theorem tpr_ut {s : m_St} {k0 k1 R : Int} {w : Int → Int} {a : Int} (h : tpr s k0 k1 R w) (h0 : 0 ≤ a) (h8 : a < 8) : tpr (utS s a) k0 k1 R (utw k0 k1 R w a) := by
  obtain ⟨e1, e2⟩ := tpr_h h
  obtain ⟨h1, h3, h4, h5, h6⟩ := h
  by_cases h4' : a < 4
  · have e : hgr a = 69 := if_pos h4'
    have ei : ixw a = 4 + a := if_pos h4'
    have em : a % 4 = a := by omega
    have eu : utS s a = wg s 69 a (s 70 a + mv (s 69 1) (s 69 2) (s 66 2) a) := by unfold utS olw; rw [e, em]; rfl
    have ew : utw k0 k1 R w a = setf w (4 + a) (cl (w (4 + a) + mv k1 (hB k1 w) R a)) := by unfold utw; rw [ei, if_pos h4', em]
    refine ⟨tkok_utS h1, by rw [eu, wg_o (by omega) (by omega)]; exact h3, by rw [eu, wg_1]; exact h4, by rw [eu, wg_o (by omega) (by omega)]; exact h5, fun c c0 c1 => ?_⟩
    rw [eu, ew]
    refine ⟨?_, ?_⟩
    · rw [wg_o (by omega) (by omega)]
      unfold setf
      rw [if_neg (by omega)]
      exact (h6 c c0 c1).1
    · have := wg_w (s := s) (g := 69) (c := a) (w := s 70 a + mv (s 69 1) (s 69 2) (s 66 2) a) (j := c)
      rw [show (69 : Int) + 1 = 70 by decide] at this
      rw [this]
      unfold setf
      by_cases hc : c = a
      · rw [if_pos hc, if_pos (by omega), (h6 a h0 h4').2, h4, e2, h5]
      · rw [if_neg hc, if_neg (by omega)]
        exact (h6 c c0 c1).2
  · have e : hgr a = 67 := if_neg h4'
    have ei : ixw a = a - 4 := if_neg h4'
    have em : a % 4 = a - 4 := by omega
    have eu : utS s a = wg s 67 (a - 4) (s 68 (a - 4) + mv (s 67 1) (s 67 2) (s 66 2) (a - 4)) := by unfold utS olw; rw [e, em]; rfl
    have ew : utw k0 k1 R w a = setf w (a - 4) (cl (w (a - 4) + mv k0 (hA k0 w) R (a - 4))) := by unfold utw; rw [ei, if_neg h4', em]
    refine ⟨tkok_utS h1, by rw [eu, wg_1]; exact h3, by rw [eu, wg_o (by omega) (by omega)]; exact h4, by rw [eu, wg_o (by omega) (by omega)]; exact h5, fun c c0 c1 => ?_⟩
    rw [eu, ew]
    refine ⟨?_, ?_⟩
    · have := wg_w (s := s) (g := 67) (c := a - 4) (w := s 68 (a - 4) + mv (s 67 1) (s 67 2) (s 66 2) (a - 4)) (j := c)
      rw [show (67 : Int) + 1 = 68 by decide] at this
      rw [this]
      unfold setf
      by_cases hc : c = a - 4
      · rw [if_pos hc, if_pos hc, (h6 (a - 4) (by omega) (by omega)).1, h3, e1, h5]
      · rw [if_neg hc, if_neg hc]
        exact (h6 c c0 c1).1
    · rw [wg_o (by omega) (by omega)]
      unfold setf
      rw [if_neg (by omega)]
      exact (h6 c c0 c1).2
