/-! kinds: from which weight on, as whom moved, between nothing and twenty -/
theorem PI {P : Option Value → m_St → Prop} {s : m_St} {a b : Int} (h : P (some (vI a)) s) (e : a = b) : P (some (vI b)) s := e ▸ h
theorem PJ {P : Option Value → m_St → Prop} {s : m_St} {a b : Int} (h : P (some (vJ a)) s) (e : a = b) : P (some (vJ b)) s := e ▸ h
theorem PS {P : Option Value → m_St → Prop} {s t : m_St} {v : Option Value} (h : P v s) (e : s = t) : P v t := e ▸ h
theorem PIS {P : Option Value → m_St → Prop} {s t : m_St} {a b : Int} (h : P (some (vI a)) s) (e : a = b) (e2 : s = t) : P (some (vI b)) t := e2 ▸ e ▸ h
theorem PJS {P : Option Value → m_St → Prop} {s t : m_St} {a b : Int} (h : P (some (vJ a)) s) (e : a = b) (e2 : s = t) : P (some (vJ b)) t := e2 ▸ e ▸ h
def hf (k : Int) : Int := if k = 4 then 7 else if k = 5 then 3 else 5
def ma (k : Int) : Int := if k = 1 ∨ k = 4 then 1 else if k = 2 ∨ k = 5 then 2 else if k = 3 then 3 else 0
def cl (w : Int) : Int := max 0 (min 20 w)
theorem hf_r (k : Int) : 3 ≤ hf k ∧ hf k ≤ 7 := by unfold hf; omega
theorem inR_hf (k : Int) : inR (hf k) := by have := hf_r k; omega
theorem ma_r (k : Int) : 0 ≤ ma k ∧ ma k ≤ 3 := by unfold ma; omega
theorem inR_ma (k : Int) : inR (ma k) := by have := ma_r k; omega
theorem cl_r (w : Int) : 0 ≤ cl w ∧ cl w ≤ 20 := by unfold cl; omega
theorem inR_cl (w : Int) : inR (cl w) := by have := cl_r w; omega
theorem sx_1001_eq {a : Int} (h0 : 0 ≤ a) (h1 : a < 6) : sx_1001 a = hf a := by
  rcases (show a = 0 ∨ a = 1 ∨ a = 2 ∨ a = 3 ∨ a = 4 ∨ a = 5 by omega) with rfl | rfl | rfl | rfl | rfl | rfl <;> decide
theorem sx_1003_eq {a : Int} (h0 : 0 ≤ a) (h1 : a < 6) : sx_1003 a = ma a := by
  rcases (show a = 0 ∨ a = 1 ∨ a = 2 ∨ a = 3 ∨ a = 4 ∨ a = 5 by omega) with rfl | rfl | rfl | rfl | rfl | rfl <;> decide
section SPA
variable {X : m_X} {d : Nat} {s : m_St} {P : Option Value → m_St → Prop} {a : Int}
theorem sp_holdsFrom (ra : inR a) (k : P (some (vI (hf a))) s) : Cl X d 44 [vI a] s P := by
  apply t_X0_holdsFrom <;> intros
  · exact ra
  · exact PI k (by unfold hf; omega)
  · exact PI k (by unfold hf; omega)
  · exact PI k (sx_1001_eq (by omega) (by omega)).symm
theorem sp_movedAs (ra : inR a) (k : P (some (vI (ma a))) s) : Cl X d 61 [vI a] s P := by
  apply t_X0_movedAs <;> intros
  · exact ra
  · exact PI k (by unfold ma; omega)
  · exact PI k (by unfold ma; omega)
  · exact PI k (sx_1003_eq (by omega) (by omega)).symm
end SPA
-- ----- sets of claims -----
def hset (f : Int → Int) (t : Int) : Int := (if t ≤ f 0 then 1 else 0) + (if t ≤ f 1 then 2 else 0) + (if t ≤ f 2 then 4 else 0) + (if t ≤ f 3 then 8 else 0)
def wr (f : Int → Int) : Prop := ∀ c, 0 ≤ c → c < 4 → inR (f c)
theorem hset_r (f : Int → Int) (t : Int) : 0 ≤ hset f t ∧ hset f t < 16 := by unfold hset; omega
theorem inR_hset (f : Int → Int) (t : Int) : inR (hset f t) := by have := hset_r f t; omega
theorem hset_cong {f f' : Int → Int} {t : Int} (h : ∀ c, 0 ≤ c → c < 4 → f c = f' c) : hset f t = hset f' t := by
  unfold hset
  rw [h 0 (by omega) (by omega), h 1 (by omega) (by omega), h 2 (by omega) (by omega), h 3 (by omega) (by omega)]
theorem hset_or {f f' : Int → Int} {t c : Int} (h0 : 0 ≤ c) (h1 : c < 4) (hne : ∀ j, 0 ≤ j → j < 4 → ¬ j = c → f' j = f j) (h : t ≤ f' c) : iOr (hset f t) (iShl 1 c) = hset f' t := by
  have key : ∀ a b c d : Bool, ∀ i ∈ ([0, 1, 2, 3] : List Int), iOr ((if a then 1 else 0) + (if b then 2 else 0) + (if c then 4 else 0) + (if d then 8 else 0)) (iShl 1 i) = (if a || i == 0 then 1 else 0) + (if b || i == 1 then 2 else 0) + (if c || i == 2 then 4 else 0) + (if d || i == 3 then 8 else 0) := by decide
  unfold hset
  rcases (show c = 0 ∨ c = 1 ∨ c = 2 ∨ c = 3 by omega) with rfl | rfl | rfl | rfl
  · have := key (t ≤ f 0) (t ≤ f 1) (t ≤ f 2) (t ≤ f 3) 0 (by decide)
    simp only [decide_eq_true_eq] at this
    rw [this, hne 1 (by omega) (by omega) (by omega), hne 2 (by omega) (by omega) (by omega), hne 3 (by omega) (by omega) (by omega)]
    simp [h]
  · have := key (t ≤ f 0) (t ≤ f 1) (t ≤ f 2) (t ≤ f 3) 1 (by decide)
    simp only [decide_eq_true_eq] at this
    rw [this, hne 0 (by omega) (by omega) (by omega), hne 2 (by omega) (by omega) (by omega), hne 3 (by omega) (by omega) (by omega)]
    simp [h]
  · have := key (t ≤ f 0) (t ≤ f 1) (t ≤ f 2) (t ≤ f 3) 2 (by decide)
    simp only [decide_eq_true_eq] at this
    rw [this, hne 1 (by omega) (by omega) (by omega), hne 0 (by omega) (by omega) (by omega), hne 3 (by omega) (by omega) (by omega)]
    simp [h]
  · have := key (t ≤ f 0) (t ≤ f 1) (t ≤ f 2) (t ≤ f 3) 3 (by decide)
    simp only [decide_eq_true_eq] at this
    rw [this, hne 1 (by omega) (by omega) (by omega), hne 2 (by omega) (by omega) (by omega), hne 0 (by omega) (by omega) (by omega)]
    simp [h]
theorem hset_out {f f' : Int → Int} {t c : Int} (h0 : 0 ≤ c) (h1 : c < 4) (hne : ∀ j, 0 ≤ j → j < 4 → ¬ j = c → f' j = f j) (h : f' c < t) : iAnd (hset f t) (iXor (iShl 1 c) (-1)) = hset f' t := by
  have key : ∀ a b c d : Bool, ∀ i ∈ ([0, 1, 2, 3] : List Int), iAnd ((if a then 1 else 0) + (if b then 2 else 0) + (if c then 4 else 0) + (if d then 8 else 0)) (iXor (iShl 1 i) (-1)) = (if a && !(i == 0) then 1 else 0) + (if b && !(i == 1) then 2 else 0) + (if c && !(i == 2) then 4 else 0) + (if d && !(i == 3) then 8 else 0) := by decide
  unfold hset
  have h' : ¬ t ≤ f' c := by omega
  rcases (show c = 0 ∨ c = 1 ∨ c = 2 ∨ c = 3 by omega) with rfl | rfl | rfl | rfl
  · have := key (t ≤ f 0) (t ≤ f 1) (t ≤ f 2) (t ≤ f 3) 0 (by decide)
    simp only [decide_eq_true_eq] at this
    rw [this, hne 1 (by omega) (by omega) (by omega), hne 2 (by omega) (by omega) (by omega), hne 3 (by omega) (by omega) (by omega)]
    simp [h']
  · have := key (t ≤ f 0) (t ≤ f 1) (t ≤ f 2) (t ≤ f 3) 1 (by decide)
    simp only [decide_eq_true_eq] at this
    rw [this, hne 0 (by omega) (by omega) (by omega), hne 2 (by omega) (by omega) (by omega), hne 3 (by omega) (by omega) (by omega)]
    simp [h']
  · have := key (t ≤ f 0) (t ≤ f 1) (t ≤ f 2) (t ≤ f 3) 2 (by decide)
    simp only [decide_eq_true_eq] at this
    rw [this, hne 1 (by omega) (by omega) (by omega), hne 0 (by omega) (by omega) (by omega), hne 3 (by omega) (by omega) (by omega)]
    simp [h']
  · have := key (t ≤ f 0) (t ≤ f 1) (t ≤ f 2) (t ≤ f 3) 3 (by decide)
    simp only [decide_eq_true_eq] at this
    rw [this, hne 1 (by omega) (by omega) (by omega), hne 2 (by omega) (by omega) (by omega), hne 0 (by omega) (by omega) (by omega)]
    simp [h']
