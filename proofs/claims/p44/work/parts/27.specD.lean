/-! guests: hearing, what all moves; shelves -/
theorem up_loop (H : Int → Prop) (n : Int) (hn : 0 ≤ n) (step : ∀ i, 0 ≤ i → i < n → H (i + 1) → H i) (fin : H n) : H 0 := by
  have key : ∀ k : Nat, (k : Int) ≤ n → H (n - k) := by
    intro k
    induction k with
    | zero => intro _; rw [show n - ((0 : Nat) : Int) = n by omega]; exact fin
    | succ k ih =>
      intro hk
      refine step _ (by omega) (by omega) ?_
      rw [show n - ((k + 1 : Nat) : Int) + 1 = n - (k : Int) by omega]
      exact ih (by omega)
  have := key n.toNat (by omega)
  rw [show n - (n.toNat : Int) = 0 by omega] at this
  exact this
def sm (f : Int → Int) : Nat → Int
  | 0 => 0
  | n + 1 => sm f n + f n
theorem sm_up {f : Int → Int} {i : Int} (h : 0 ≤ i) : sm f (i + 1).toNat = sm f i.toNat + f i := by
  rw [show (i + 1).toNat = i.toNat + 1 by omega]
  show sm f i.toNat + f (i.toNat : Int) = _
  rw [Int.toNat_of_nonneg h]
/-- a row of numbers mixed into one -/
def hr (f : Int → Int) (h : Int) : Nat → Int
  | 0 => h
  | n + 1 => 31 * hr f h n + f n
theorem hr_up {f : Int → Int} {h i : Int} (h0 : 0 ≤ i) : hr f h (i + 1).toNat = 31 * hr f h i.toNat + f i := by
  rw [show (i + 1).toNat = i.toNat + 1 by omega]
  show 31 * hr f h i.toNat + f (i.toNat : Int) = _
  rw [Int.toNat_of_nonneg h0]
def hrs (z : Int → Int) (f : Int → Int → Int) (h : Int) : Nat → Int
  | 0 => h
  | n + 1 => hr (f n) (31 * hrs z f h n + z n) (z n).toNat
theorem hrs_up {z : Int → Int} {f : Int → Int → Int} {h i : Int} (h0 : 0 ≤ i) : hrs z f h (i + 1).toNat = hr (f i) (31 * hrs z f h i.toNat + z i) (z i).toNat := by
  rw [show (i + 1).toNat = i.toNat + 1 by omega]
  show hr (f (i.toNat : Int)) (31 * hrs z f h i.toNat + z (i.toNat : Int)) (z (i.toNat : Int)).toNat = _
  rw [Int.toNat_of_nonneg h0]
/-- the first n places of a cell filled -/
def fil (s : m_St) (c n v : Int) : m_St := fun a j => if a = c ∧ 0 ≤ j ∧ j < n then v else s a j
theorem fil_0 {s : m_St} {c v : Int} : fil s c 0 v = s := by
  funext a j
  unfold fil
  rw [if_neg (by omega)]
theorem fil_up {s : m_St} {c n v : Int} (h : 0 ≤ n) : m_upd (fil s c n v) c n v = fil s c (n + 1) v := by
  funext a j
  unfold fil m_upd
  dsimp only
  repeat' split
  all_goals first | rfl | omega
/-- copied into a cell, place by place -/
def cpf (s : m_St) (c n : Int) (f : Int → Int) : m_St := fun a j => if a = c ∧ 0 ≤ j ∧ j < n then f j else s a j
theorem cpf_0 {s : m_St} {c : Int} {f : Int → Int} : cpf s c 0 f = s := by
  funext a j
  unfold cpf
  rw [if_neg (by omega)]
theorem cpf_up {s : m_St} {c n : Int} {f : Int → Int} (h : 0 ≤ n) : m_upd (cpf s c n f) c n (f n) = cpf s c (n + 1) f := by
  funext a j
  unfold cpf m_upd
  dsimp only
  repeat' split
  all_goals first | rfl | omega | (congr 1; omega)
def hsm (s : m_St) (g R : Int) : Int := mv (s g 1) (s g 2) R 0 + mv (s g 1) (s g 2) R 1 + mv (s g 1) (s g 2) R 2 + mv (s g 1) (s g 2) R 3
def unm (s : m_St) (g R : Int) : Int := (if mv (s g 1) (s g 2) R 0 = 0 then 1 else 0) + (if mv (s g 1) (s g 2) R 1 = 0 then 1 else 0) + (if mv (s g 1) (s g 2) R 2 = 0 then 1 else 0) + (if mv (s g 1) (s g 2) R 3 = 0 then 1 else 0)
section SPD
variable {X : m_X} {d : Nat} {s : m_St} {P : Option Value → m_St → Prop} {g a b r n f h : Int}
theorem sp_hears (hg : ty g = 0) (hk : gok s g) (h0 : 0 ≤ a) (h1 : a < 4) (k : P (some (vI (s (g + 1) a))) (wg s g a (s (g + 1) a + mv (s g 1) (s g 2) b a))) : Cl X (d + 2) 59 [vR g, vI a, vI b] s P := by
  have h2 := hk.2.2.2 a h0 h1
  have h3 := mv_r (s g 1) (s g 2) b a
  apply t_X0_hears hg h0 h1 <;> intros <;> first | exact hk | exact k | exact hk.1 | exact hk.2.1 | omega
theorem sp_make1 (h0 : 0 ≤ r) (h6 : r < 6) (hn : 0 ≤ n) (hM : n ≤ 40) (hm : s 1 2 = 40) (k : P none (fil (m_upd s 2 r n) (4 + r) n f)) : Cl X (d + 1) 11 [vR 1, vI r, vI n, vI f] s P := by
  refine t_make1 h0 h6 hn (by omega) (by omega) (by omega) (by omega) (fun _ => ?_)
  rw [← fil_0 (s := m_upd s 2 r n) (c := 4 + r) (v := f)]
  refine up_loop (fun i => Rn X (d + 1) 11 30 [some (vR 1), some (vI r), some (vI n), some (vI f), some (vI i)] [] (fil (m_upd s 2 r n) (4 + r) i f) P) n hn ?_ ?_
  · intro i hi hin hnext
    refine t_make1_30 h0 h6 hi (by omega) (by omega) (by omega) (by omega) (fun _ => ?_)
    rw [fil_up hi]
    exact hnext
  · exact t_make1_30 h0 h6 hn (by omega) (by omega) (fun _ => k) (by omega) (by omega)
def thr1 (s : m_St) : Int := sm (fun r => if s 2 r = -1 then 0 else 1) 6
theorem sp_there1 (hz : ∀ r, 0 ≤ r → r < 6 → inR (s 2 r)) (k : P (some (vI (thr1 s))) s) : Cl X (d + 3) 152 [vR 1] s P := by
  refine t_there1 ?_
  refine up_loop (fun r => Rn X (d + 3) 152 4 [some (vR 1), some (vI (sm (fun r => if s 2 r = -1 then 0 else 1) r.toNat)), some (vI r)] [] s P) 6 (by omega) ?_ ?_
  · intro r h0 h6 hnext
    have e := sm_up (f := fun r => if s 2 r = -1 then 0 else 1) h0
    refine t_there1_4 h0 ⟨by omega, by omega⟩ (by omega) (fun _ => hz r h0 h6) (fun _ q => ?_) (fun _ q => ?_)
    · rw [e] at hnext
      rw [if_pos q, Int.add_zero] at hnext
      exact hnext
    · rw [e] at hnext
      rw [if_neg q] at hnext
      exact hnext
  · exact t_there1_4 (by omega) (by decide) (fun _ => k) (by omega) (by omega) (by omega)
theorem sp_make10 (h0 : 0 ≤ r) (h6 : r < 4) (hn : 0 ≤ n) (hM : n ≤ 60) (hm : s 10 2 = 60) (k : P none (fil (m_upd s 11 r n) (13 + r) n f)) : Cl X (d + 1) 11 [vR 10, vI r, vI n, vI f] s P := by
  refine t_make10 h0 h6 hn (by omega) (by omega) (by omega) (by omega) (fun _ => ?_)
  rw [← fil_0 (s := m_upd s 11 r n) (c := 13 + r) (v := f)]
  refine up_loop (fun i => Rn X (d + 1) 11 30 [some (vR 10), some (vI r), some (vI n), some (vI f), some (vI i)] [] (fil (m_upd s 11 r n) (13 + r) i f) P) n hn ?_ ?_
  · intro i hi hin hnext
    refine t_make10_30 h0 h6 hi (by omega) (by omega) (by omega) (by omega) (fun _ => ?_)
    rw [fil_up hi]
    exact hnext
  · exact t_make10_30 h0 h6 hn (by omega) (by omega) (fun _ => k) (by omega) (by omega)
def thr10 (s : m_St) : Int := sm (fun r => if s 11 r = -1 then 0 else 1) 4
theorem sp_there10 (hz : ∀ r, 0 ≤ r → r < 4 → inR (s 11 r)) (k : P (some (vI (thr10 s))) s) : Cl X (d + 3) 152 [vR 10] s P := by
  refine t_there10 ?_
  refine up_loop (fun r => Rn X (d + 3) 152 4 [some (vR 10), some (vI (sm (fun r => if s 11 r = -1 then 0 else 1) r.toNat)), some (vI r)] [] s P) 4 (by omega) ?_ ?_
  · intro r h0 h6 hnext
    have e := sm_up (f := fun r => if s 11 r = -1 then 0 else 1) h0
    refine t_there10_4 h0 ⟨by omega, by omega⟩ (by omega) (fun _ => hz r h0 h6) (fun _ q => ?_) (fun _ q => ?_)
    · rw [e] at hnext
      rw [if_pos q, Int.add_zero] at hnext
      exact hnext
    · rw [e] at hnext
      rw [if_neg q] at hnext
      exact hnext
  · exact t_there10_4 (by omega) (by decide) (fun _ => k) (by omega) (by omega) (by omega)
theorem sp_make17 (h0 : 0 ≤ r) (h6 : r < 3) (hn : 0 ≤ n) (hM : n ≤ 40) (hm : s 17 2 = 40) (k : P none (fil (m_upd s 18 r n) (20 + r) n f)) : Cl X (d + 1) 11 [vR 17, vI r, vI n, vI f] s P := by
  refine t_make17 h0 h6 hn (by omega) (by omega) (by omega) (by omega) (fun _ => ?_)
  rw [← fil_0 (s := m_upd s 18 r n) (c := 20 + r) (v := f)]
  refine up_loop (fun i => Rn X (d + 1) 11 30 [some (vR 17), some (vI r), some (vI n), some (vI f), some (vI i)] [] (fil (m_upd s 18 r n) (20 + r) i f) P) n hn ?_ ?_
  · intro i hi hin hnext
    refine t_make17_30 h0 h6 hi (by omega) (by omega) (by omega) (by omega) (fun _ => ?_)
    rw [fil_up hi]
    exact hnext
  · exact t_make17_30 h0 h6 hn (by omega) (by omega) (fun _ => k) (by omega) (by omega)
def thr17 (s : m_St) : Int := sm (fun r => if s 18 r = -1 then 0 else 1) 3
theorem sp_there17 (hz : ∀ r, 0 ≤ r → r < 3 → inR (s 18 r)) (k : P (some (vI (thr17 s))) s) : Cl X (d + 3) 152 [vR 17] s P := by
  refine t_there17 ?_
  refine up_loop (fun r => Rn X (d + 3) 152 4 [some (vR 17), some (vI (sm (fun r => if s 18 r = -1 then 0 else 1) r.toNat)), some (vI r)] [] s P) 3 (by omega) ?_ ?_
  · intro r h0 h6 hnext
    have e := sm_up (f := fun r => if s 18 r = -1 then 0 else 1) h0
    refine t_there17_4 h0 ⟨by omega, by omega⟩ (by omega) (fun _ => hz r h0 h6) (fun _ q => ?_) (fun _ q => ?_)
    · rw [e] at hnext
      rw [if_pos q, Int.add_zero] at hnext
      exact hnext
    · rw [e] at hnext
      rw [if_neg q] at hnext
      exact hnext
  · exact t_there17_4 (by omega) (by decide) (fun _ => k) (by omega) (by omega) (by omega)
theorem sp_dropAll17 (k : P none (fil s 18 3 (-1))) : Cl X d 63 [vR 17] s P := by
  refine t_dropAll17 ?_
  rw [← fil_0 (s := s) (c := 18) (v := -1)]
  refine up_loop (fun r => Rn X d 63 2 [some (vR 17), some (vI r)] [] (fil s 18 r (-1)) P) 3 (by omega) ?_ ?_
  · intro r h0 h6 hnext
    refine t_dropAll17_2 ⟨by omega, by omega⟩ (by omega) (fun _ => h0) (fun _ => ?_)
    rw [fil_up h0]
    exact hnext
  · exact t_dropAll17_2 (by decide) (fun _ => k) (by omega) (by omega)
end SPD
