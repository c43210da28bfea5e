/-! guests: as another, weighing, by how much moved -/
def lk (s : m_St) (g o k : Int) : m_St := fun c j => if c = g + 1 ∧ 0 ≤ j ∧ j < 4 then s (o + 1) j else if c = g ∧ j = 1 then k else if c = g ∧ j = 2 then hset (s (o + 1)) (hf k) else s c j
def wg (s : m_St) (g c w : Int) : m_St := m_upd (m_upd s (g + 1) c (cl w)) g 2 (hset (m_upd s (g + 1) c (cl w) (g + 1)) (hf (s g 1)))
def mv (k h R c : Int) : Int := if iAnd (iShr R (4 * c)) h = 0 then (if ma k = 1 then 0 else if ma k = 2 then 2 else if ma k = 3 ∧ iAnd (iShr h c) 1 = 0 then -1 else 1) else (if ma k = 2 then 3 else if ma k = 3 ∧ iAnd (iShr h c) 1 = 0 then -1 else 2)
theorem mv_r (k h R c : Int) : -1 ≤ mv k h R c ∧ mv k h R c ≤ 3 := by unfold mv; omega
theorem inR_mv (k h R c : Int) : inR (mv k h R c) := by have := mv_r k h R c; omega
/-- a guest in order -/
def gok (s : m_St) (g : Int) : Prop := 0 ≤ s g 1 ∧ s g 1 < 6 ∧ s g 2 = hset (s (g + 1)) (hf (s g 1)) ∧ ∀ c, 0 ≤ c → c < 4 → 0 ≤ s (g + 1) c ∧ s (g + 1) c ≤ 20
theorem gok.wr {s : m_St} {g : Int} (h : gok s g) : wr (s (g + 1)) := fun c h0 h1 => by have := h.2.2.2 c h0 h1; omega
theorem gok.h {s : m_St} {g : Int} (h : gok s g) : 0 ≤ s g 2 ∧ s g 2 < 16 := by rw [h.2.2.1]; exact hset_r _ _
theorem gok_lk {s : m_St} {g o k : Int} (h0 : 0 ≤ k) (h1 : k < 6) (hw : ∀ c, 0 ≤ c → c < 4 → 0 ≤ s (o + 1) c ∧ s (o + 1) c ≤ 20) : gok (lk s g o k) g := by
  have e1 : lk s g o k g 1 = k := by unfold lk; rw [if_neg (by omega), if_pos (by omega)]
  have e2 : lk s g o k g 2 = hset (s (o + 1)) (hf k) := by unfold lk; rw [if_neg (by omega), if_neg (by omega), if_pos (by omega)]
  have e3 : ∀ c, 0 ≤ c → c < 4 → lk s g o k (g + 1) c = s (o + 1) c := fun c h0 h1 => by unfold lk; rw [if_pos (by omega)]
  refine ⟨by rw [e1]; exact h0, by rw [e1]; exact h1, ?_, fun c h0 h1 => by rw [e3 c h0 h1]; exact hw c h0 h1⟩
  rw [e1, e2]
  exact hset_cong fun c h0 h1 => (e3 c h0 h1).symm
theorem wg_1 {s : m_St} {g c w : Int} : wg s g c w g 1 = s g 1 := by unfold wg m_upd; rw [if_neg (by omega), if_neg (by omega)]
theorem wg_2 {s : m_St} {g c w : Int} : wg s g c w g 2 = hset (m_upd s (g + 1) c (cl w) (g + 1)) (hf (s g 1)) := upd_eq
theorem wg_w {s : m_St} {g c w j : Int} : wg s g c w (g + 1) j = if j = c then cl w else s (g + 1) j := by
  unfold wg
  rw [upd_nc (by omega)]
  unfold m_upd
  by_cases h : j = c
  · rw [if_pos ⟨rfl, h⟩, if_pos h]
  · rw [if_neg (fun z => h z.2), if_neg h]
theorem gok_wg {s : m_St} {g c w : Int} (h : gok s g) : gok (wg s g c w) g := by
  refine ⟨by rw [wg_1]; exact h.1, by rw [wg_1]; exact h.2.1, ?_, fun j h0 h1 => ?_⟩
  · rw [wg_1, wg_2]
    refine hset_cong fun j h0 h1 => ?_
    rw [wg_w]
    unfold m_upd
    by_cases hj : j = c
    · rw [if_pos ⟨rfl, hj⟩, if_pos hj]
    · rw [if_neg (fun z => hj z.2), if_neg hj]
  · rw [wg_w]
    have := h.2.2.2 j h0 h1
    have := cl_r w
    split <;> omega
section SPC
variable {X : m_X} {d : Nat} {s : m_St} {P : Option Value → m_St → Prop} {g o a b : Int}
theorem sp_be (hg : ty g = 0) (h0 : 0 ≤ a) (h1 : a < 6) (hw : wr (s (g + 1))) (k : P none (m_upd (m_upd s g 1 a) g 2 (hset (s (g + 1)) (hf a)))) : Cl X (d + 2) 42 [vR g, vI a] s P := by
  have e : m_upd s g 1 a (g + 1) = s (g + 1) := by funext j; exact upd_nc (by omega)
  apply t_X0_be hg <;> intros <;> first | omega | (rw [e]; exact hw) | (rw [e]; exact k)
theorem sp_beLike (hg : ty g = 0) (ho : ty o = 0) (h0 : 0 ≤ a) (h1 : a < 6) (hw : wr (s (o + 1))) (k : P none (lk s g o a)) : Cl X (d + 3) 53 [vR g, vR o, vI a] s P := by
  have e : ∀ c, 0 ≤ c → c < 4 → m_upd (m_upd (m_upd (m_upd (m_upd s (g + 1) 0 (s (o + 1) 0)) (g + 1) 1 (s (o + 1) 1)) (g + 1) 2 (s (o + 1) 2)) (g + 1) 3 (s (o + 1) 3)) g 1 a (g + 1) c = s (o + 1) c := by
    intro c h0 h1
    rcases (show c = 0 ∨ c = 1 ∨ c = 2 ∨ c = 3 by omega) with rfl | rfl | rfl | rfl <;> (unfold m_upd; simp; try omega)
  apply t_X0_beLike hg ho <;> intros
  · omega
  · omega
  · omega
  · intro c h0 h1
    rw [e c h0 h1]
    exact hw c h0 h1
  · refine PS k ?_
    rw [hset_cong e]
    funext c j
    unfold lk m_upd
    repeat' split
    all_goals first | rfl | omega | (congr 1; omega)
theorem sp_weigh (hg : ty g = 0) (h : gok s g) (h0 : 0 ≤ a) (h1 : a < 4) (rb : inR b) (k : P none (wg s g a b)) : Cl X (d + 1) 45 [vR g, vI a, vI b] s P := by
  have e1 : m_upd s (g + 1) a (max 0 (min 20 b)) g 1 = s g 1 := upd_nc (by omega)
  have e2 : m_upd s (g + 1) a (max 0 (min 20 b)) g 2 = s g 2 := upd_nc (by omega)
  have e3 : ∀ j, 0 ≤ j → j < 4 → ¬ j = a → m_upd s (g + 1) a (cl b) (g + 1) j = s (g + 1) j := fun j _ _ hj => upd_nj hj
  have e4 : m_upd s (g + 1) a (cl b) (g + 1) a = cl b := upd_eq
  have hk := h.1
  have hk2 := h.2.1
  apply t_X0_weigh hg <;> intros
  · omega
  · omega
  · omega
  · exact rb
  · omega
  · rw [e1]; omega
  · omega
  · refine PS k ?_
    rw [e2, h.2.2.1]
    rw [e1] at *
    unfold wg
    rw [← hset_out (f := s (g + 1)) h0 h1 e3 (by rw [e4]; assumption)]
    rfl
  · refine PS k ?_
    rw [e2, h.2.2.1]
    rw [e1] at *
    unfold wg
    rw [← hset_or (f := s (g + 1)) h0 h1 e3 (by rw [e4]; assumption)]
    rfl
theorem sp_moves (hg : ty g = 0) (h0 : 0 ≤ s g 1) (h1 : s g 1 < 6) (k : P (some (vI (mv (s g 1) (s g 2) b a))) s) : Cl X (d + 1) 60 [vR g, vI a, vI b] s P := by
  have hm := ma_r (s g 1)
  apply t_X0_moves hg <;> intros <;> first | (exact ⟨by omega, by omega⟩) | exact PI k (by unfold mv; omega)
end SPC
