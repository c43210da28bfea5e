/-! the hut: what is performed, counted, closed -/
def pf (s : m_St) (a : Int) : m_St :=
  if a < 8 then m_upd (wg s (44 + 4 * (if a < 4 then s 38 8 else s 38 7)) (a % 4) (s (44 + 4 * (if a < 4 then s 38 8 else s 38 7) + 1) (a % 4) + mv (s (44 + 4 * (if a < 4 then s 38 8 else s 38 7)) 1) (s (44 + 4 * (if a < 4 then s 38 8 else s 38 7)) 2) (s 38 5) (a % 4))) 38 6 (s 38 6 - 1)
  else if a = 8 then m_upd s 38 6 (s 38 4) else m_upd (m_upd s 38 7 ((a - 9) / 6)) 38 8 ((a - 9) % 6)
/-- the cells in which the hut as it is lies -/
def hcell (c j : Int) : Prop := (44 ≤ c ∧ c < 66 ∧ c % 4 < 2) ∨ (c = 38 ∧ 6 ≤ j ∧ j ≤ 9)
theorem wg_o {s : m_St} {g c w a j : Int} (h1 : ¬ a = g) (h2 : ¬ a = g + 1) : wg s g c w a j = s a j := by
  unfold wg m_upd
  rw [if_neg (by omega), if_neg (by omega)]
theorem pf_o {s : m_St} {a : Int} (h0 : 0 ≤ a) (hr : a < 8 → 0 ≤ s 38 7 ∧ s 38 7 < 6 ∧ 0 ≤ s 38 8 ∧ s 38 8 < 6) {c j : Int} (hc : ¬ hcell c j) : pf s a c j = s c j := by
  unfold hcell at hc
  unfold pf
  split
  · next h8 =>
    have hr := hr h8
    have e : ∀ g : Int, 44 ≤ g → g < 65 → g % 4 = 0 → ∀ x y z : Int, m_upd (wg s g x y) 38 6 z c j = s c j := fun g g1 g2 g3 x y z => by
      unfold m_upd
      rw [if_neg (by omega), wg_o (by omega) (by omega)]
    refine e _ ?_ ?_ ?_ _ _ _ <;> split <;> omega
  · split
    · exact if_neg (by omega)
    · unfold m_upd
      rw [if_neg (by omega), if_neg (by omega)]
def cl1 (R u i : Int) : Int := if iAnd (iAnd (iShr R (4 * i)) u) 15 = 0 then u else iOr u (iShl 1 i)
def clr (R u : Int) : Int := cl1 R (cl1 R (cl1 R (cl1 R u 0) 1) 2) 3
def clo (R u : Int) : Int := clr R (clr R (clr R u))
def hba (s : m_St) : Nat → Int
  | 0 => if s 38 3 = 0 then 0 else 15
  | n + 1 => iAnd (hba s n) (s (44 + 4 * n) 2)
theorem hba_up {s : m_St} {i : Int} (h : 0 ≤ i) : hba s (i + 1).toNat = iAnd (hba s i.toNat) (s (44 + 4 * i) 2) := by
  rw [show (i + 1).toNat = i.toNat + 1 by omega]
  show iAnd (hba s i.toNat) (s (44 + 4 * (i.toNat : Int)) 2) = _
  rw [Int.toNat_of_nonneg h]
def syd (s : m_St) : Int := sm (fun i => if s 41 i < 8 then 1 else 0) (s 38 9).toNat
def bsh (s : m_St) : Int := sm (fun i => if s (44 + 4 * i) 1 = 1 ∨ ma (s (44 + 4 * i) 1) = 1 then 1 else 0) (s 38 3).toNat
def kpi (s : m_St) (k : Int) : m_St := cpf (fil (m_upd s 18 k (s 38 9)) (20 + k) (s 38 9) 0) (20 + k) (s 38 9) (s 41)
section SPE
variable {X : m_X} {d : Nat} {s : m_St} {P : Option Value → m_St → Prop} {a k : Int}
theorem sp_perform (h0 : 0 ≤ a) (ra : inR a) (hr : a < 8 → 0 ≤ s 38 7 ∧ s 38 7 < 6 ∧ 0 ≤ s 38 8 ∧ s 38 8 < 6) (hg : a < 8 → ∀ i, 0 ≤ i → i < 6 → gok s (44 + 4 * i)) (kk : P none (pf s a)) : Cl X (d + 3) 56 [vR 38, vI a] s P := by
  unfold pf at kk
  by_cases h8 : a < 8
  · rw [if_pos h8] at kk
    have hr := hr h8
    have hg := hg h8
    have e : ∀ g : Int, 44 ≤ g → ∀ x y : Int, wg s g x y 38 6 = s 38 6 := fun g hg x y => wg_o (by omega) (by omega)
    refine t_perfS h0 h8 (by omega) (by omega) (by omega) (by omega) ra (by omega) (fun _ => hg _ (by omega) (by omega)) (by omega) (by omega) (fun h => ?_) (by omega) (fun _ => hg _ (by omega) (by omega)) (by omega) (by omega) (fun h => ?_)
    · rw [if_neg (by omega)] at kk
      rw [e _ (by omega)]
      exact kk
    · rw [if_pos h] at kk
      rw [e _ (by omega)]
      exact kk
  · rw [if_neg h8] at kk
    refine t_perfE (by omega) ra (by omega) (by omega) (fun h => ?_) (fun h => ?_)
    · rw [if_neg h] at kk
      exact kk
    · rw [if_pos h] at kk
      exact kk
theorem sp_sayingsDone (h0 : 0 ≤ s 38 9) (h4 : s 38 9 ≤ 40) (hw : ∀ i, 0 ≤ i → i < s 38 9 → inR (s 41 i)) (kk : P (some (vI (syd s))) s) : Cl X d 148 [vR 38] s P := by
  refine t_X1_sayingsDone ?_
  refine up_loop (fun i => Rn X d 148 4 [some (vR 38), some (vI (sm (fun i => if s 41 i < 8 then 1 else 0) i.toNat)), some (vI i)] [] s P) (s 38 9) h0 ?_ ?_
  · intro i hi hin hnext
    rw [sm_up hi] at hnext
    have := hw i hi hin
    refine t_X1_sayingsDone_4 hi (by omega) (by omega) (by omega) (by omega) (fun _ => this) (fun _ q => ?_) (fun _ q => ?_)
    · rw [if_neg (by omega), Int.add_zero] at hnext
      exact hnext
    · rw [if_pos q] at hnext
      exact hnext
  · exact t_X1_sayingsDone_4 h0 (by omega) (by omega) (fun _ => kk) (by omega) (by omega) (by omega) (by omega)
theorem sp_heldByAll (h0 : 0 ≤ s 38 3) (h6 : s 38 3 ≤ 6) (kk : P (some (vI (hba s (s 38 3).toNat))) s) : Cl X (d + 1) 150 [vR 38] s P := by
  have main : Rn X (d + 1) 150 16 [some (vR 38), some (vI (hba s 0)), some (vI 0)] [] s P := by
    refine up_loop (fun i => Rn X (d + 1) 150 16 [some (vR 38), some (vI (hba s i.toNat)), some (vI i)] [] s P) (s 38 3) h0 ?_ ?_
    · intro i hi hin hnext
      rw [hba_up hi] at hnext
      exact t_X1_heldByAll_16 hi (by omega) (by omega) (by omega) (by omega) (fun _ => hnext)
    · exact t_X1_heldByAll_16 h0 (by omega) (by omega) (fun _ => kk) (by omega) (by omega)
  refine t_X1_heldByAll (by omega) (fun q => ?_) (fun q => ?_)
  · rw [show hba s 0 = 15 from if_neg q] at main
    exact main
  · rw [show hba s 0 = 0 from if_pos q] at main
    exact main
theorem sp_bishops (h0 : 0 ≤ s 38 3) (h6 : s 38 3 ≤ 6) (hg : ∀ i, 0 ≤ i → i < s 38 3 → inR (s (44 + 4 * i) 1)) (kk : P (some (vI (bsh s))) s) : Cl X (d + 2) 151 [vR 38] s P := by
  refine t_X1_bishops ?_
  refine up_loop (fun i => Rn X (d + 2) 151 4 [some (vR 38), some (vI (sm (fun i => if s (44 + 4 * i) 1 = 1 ∨ ma (s (44 + 4 * i) 1) = 1 then 1 else 0) i.toNat)), some (vI i)] [] s P) (s 38 3) h0 ?_ ?_
  · intro i hi hin hnext
    rw [sm_up hi] at hnext
    have := hg i hi hin
    refine t_X1_bishops_4 hi (by omega) (by omega) (by omega) (by omega) (fun _ => this) (fun _ q => ?_) (fun _ q q2 => ?_) (fun _ q q2 => ?_)
    · rw [if_pos (Or.inl q)] at hnext
      exact hnext
    · rw [if_neg (by omega), Int.add_zero] at hnext
      exact hnext
    · rw [if_pos (Or.inr q2)] at hnext
      exact hnext
  · exact t_X1_bishops_4 h0 (by omega) (by omega) (fun _ => kk) (by omega) (by omega) (by omega) (by omega) (by omega)
end SPE
