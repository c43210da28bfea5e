/-! reading, as numbers: n signs sg; x is what is read so far (-1 the place, -2 the fault, -3 the reasons as the class keeps them; the rest as a hut) -/
def at_ (n : Int) (sg : Int → Int) (p : Int) : Int := if p < n then sg p else 1000
def dgt (lim n : Int) (sg : Int → Int) (p : Int) : Prop := 0 ≤ at_ n sg p - 48 ∧ at_ n sg p - 48 < lim
theorem dgt_dec (lim n : Int) (sg : Int → Int) (p : Int) : dgt lim n sg p ∨ ¬ dgt lim n sg p := by unfold dgt; omega
def kOf (c : Int) : Int := if c = 103 then 0 else if c = 98 then 1 else if c = 97 then 2 else if c = 109 then 3 else if c = 99 then 4 else if c = 104 then 5 else -9
theorem kOf_r (c : Int) : (0 ≤ kOf c ∧ kOf c < 6) ∨ kOf c = -9 := by unfold kOf; omega
theorem inR_kOf (c : Int) : inR (kOf c) := by have := kOf_r c; omega
def skbN (n : Int) (sg : Int → Int) : Nat → Int → Int
  | 0, p => p
  | k + 1, p => if p < n ∧ sg p = 32 then skbN n sg k (p + 1) else p
def skb (n : Int) (sg : Int → Int) (p : Int) : Int := skbN n sg (n - p).toNat p
theorem skbN_r {n : Int} {sg : Int → Int} : ∀ (k : Nat) (p : Int), p ≤ skbN n sg k p ∧ (p ≤ n → skbN n sg k p ≤ n) := by
  intro k
  induction k with
  | zero => intro p; exact ⟨Int.le_refl p, fun h => h⟩
  | succ k ih =>
    intro p
    unfold skbN
    split
    · have := ih (p + 1)
      exact ⟨by omega, fun h => this.2 (by omega)⟩
    · exact ⟨Int.le_refl p, fun h => h⟩
theorem skb_up {n p : Int} {sg : Int → Int} (h : p < n) (hb : sg p = 32) : skb n sg p = skb n sg (p + 1) := by
  unfold skb
  rw [show (n - p).toNat = (n - (p + 1)).toNat + 1 by omega]
  show (if p < n ∧ sg p = 32 then skbN n sg (n - (p + 1)).toNat (p + 1) else p) = _
  rw [if_pos ⟨h, hb⟩]
theorem skb_no {n p : Int} {sg : Int → Int} (h : ¬ (p < n ∧ sg p = 32)) : skb n sg p = p := by
  unfold skb
  cases hk : (n - p).toNat with
  | zero => rfl
  | succ k =>
    show (if p < n ∧ sg p = 32 then skbN n sg k (p + 1) else p) = p
    rw [if_neg h]
def fW (n : Int) (sg : Int → Int) (p : Int) : Int := if ¬ at_ n sg p = 119 then p else if ¬ (0 ≤ at_ n sg (p + 1) - 48 ∧ at_ n sg (p + 1) - 48 < 10) then p + 1 else if ¬ (0 ≤ at_ n sg (p + 2) - 48 ∧ at_ n sg (p + 2) - 48 < 10) then p + 2 else if 40 < 10 * (at_ n sg (p + 1) - 48) + (at_ n sg (p + 2) - 48) then p + 1 else -9
def fR (n : Int) (sg : Int → Int) (p : Int) : Int := if ¬ (0 ≤ at_ n sg (p + 1) - 48 ∧ at_ n sg (p + 1) - 48 < 4) then p + 1 else if ¬ (0 ≤ at_ n sg (p + 2) - 48 ∧ at_ n sg (p + 2) - 48 < 4) then p + 2 else if at_ n sg (p + 1) = at_ n sg (p + 2) then p + 2 else -9
def fG (n : Int) (sg : Int → Int) (p c : Int) : Int := if kOf (at_ n sg p) < 0 ∨ 6 ≤ c then p else if ¬ (0 ≤ at_ n sg (p + 1) - 48 ∧ at_ n sg (p + 1) - 48 < 10) then p + 1 else if ¬ (0 ≤ at_ n sg (p + 2) - 48 ∧ at_ n sg (p + 2) - 48 < 10) then p + 2 else if ¬ (0 ≤ at_ n sg (p + 3) - 48 ∧ at_ n sg (p + 3) - 48 < 10) then p + 3 else if ¬ (0 ≤ at_ n sg (p + 4) - 48 ∧ at_ n sg (p + 4) - 48 < 10) then p + 4 else -9
def skp (n : Int) (sg : Int → Int) (x : Int → Int) : Int → Int := setf x (-1) (skb n sg (x (-1)))
def pW (n : Int) (sg : Int → Int) (x : Int → Int) : Int → Int :=
  if fW n sg (x (-1)) = -9 then setf (setf (setf x (-1) (x (-1) + 3)) 1 (10 * (at_ n sg (x (-1) + 1) - 48) + (at_ n sg (x (-1) + 2) - 48))) 2 (10 * (at_ n sg (x (-1) + 1) - 48) + (at_ n sg (x (-1) + 2) - 48))
  else setf x (-2) (fW n sg (x (-1)))
def pR (n : Int) (sg : Int → Int) (x : Int → Int) : Int → Int :=
  if fR n sg (x (-1)) = -9 then setf (setf (setf x (-1) (x (-1) + 3)) (-3) (iOr (x (-3)) (iShl 1 (4 * (at_ n sg (x (-1) + 2) - 48) + (at_ n sg (x (-1) + 1) - 48))))) 7 (iOr (x 7) (iShl 1 (4 * (at_ n sg (x (-1) + 1) - 48) + (at_ n sg (x (-1) + 2) - 48))))
  else setf x (-2) (fR n sg (x (-1)))
def pG1 (n : Int) (sg : Int → Int) (x : Int → Int) : Int → Int := fun j => if j = -1 then x (-1) + 5 else if j = 0 then x 0 + 1 else if j = 8 + 5 * x 0 then kOf (at_ n sg (x (-1))) else if 9 + 5 * x 0 ≤ j ∧ j < 13 + 5 * x 0 then at_ n sg (x (-1) + 1 + (j - (9 + 5 * x 0))) - 48 else x j
def pG (n : Int) (sg : Int → Int) (x : Int → Int) : Int → Int :=
  if fG n sg (x (-1)) (x 0) = -9 then pG1 n sg x else setf x (-2) (fG n sg (x (-1)) (x 0))
def pI (n : Int) (sg : Int → Int) (x : Int → Int) : Int → Int := skp n sg (if at_ n sg (x (-1)) = 102 then pR n sg x else pG n sg x)
def pL (n : Int) (sg : Int → Int) : Nat → (Int → Int) → Int → Int
  | 0, x => x
  | k + 1, x => if x (-2) = -9 ∧ x (-1) < n then pL n sg k (pI n sg x) else x
def x0 : Int → Int := setf (fun _ => 0) (-2) (-9)
def xW (n : Int) (sg : Int → Int) : Int → Int := skp n sg (pW n sg (skp n sg x0))
def rdx (n : Int) (sg : Int → Int) : Int → Int := pL n sg 60 (xW n sg)
/-- the fault; none -/
def rdv (n : Int) (sg : Int → Int) : Int := if rdx n sg (-2) = -9 then (if rdx n sg 0 < 2 then n else -9) else rdx n sg (-2)
def tok (n : Int) (sg : Int → Int) : Prop := 0 ≤ n ∧ n ≤ 60 ∧ ∀ j, 0 ≤ j → j < n → -128 ≤ sg j ∧ sg j ≤ 127
/-- what is read so far, in order -/
def xok (n : Int) (x : Int → Int) : Prop := 0 ≤ x (-1) ∧ x (-1) ≤ n ∧ 0 ≤ x 0 ∧ x 0 ≤ 6 ∧ 0 ≤ x 1 ∧ x 1 ≤ 40 ∧ x 2 = x 1 ∧ x (-2) = -9 ∧ x 5 = 0 ∧ x 6 = 0 ∧ x 3 = 0 ∧ x 4 = 0 ∧ inR (x (-3)) ∧ inR (x 7) ∧ ∀ i, 0 ≤ i → i < x 0 → 0 ≤ x (8 + 5 * i) ∧ x (8 + 5 * i) < 6 ∧ ∀ c, 0 ≤ c → c < 4 → 0 ≤ x (9 + 5 * i + c) ∧ x (9 + 5 * i + c) ≤ 9
theorem xok_skp {n : Int} {sg : Int → Int} {x : Int → Int} (h : xok n x) : xok n (skp n sg x) := by
  obtain ⟨h1, h2, h3⟩ := h
  have := skbN_r (n := n) (sg := sg) (n - x (-1)).toNat (x (-1))
  have e : ∀ j, ¬ j = -1 → skp n sg x j = x j := fun j hj => if_neg hj
  have e1 : skp n sg x (-1) = skb n sg (x (-1)) := by unfold skp setf; rw [if_pos rfl]
  unfold xok
  rw [e1, e 0 (by omega), e 1 (by omega), e 2 (by omega), e (-2) (by omega), e 5 (by omega), e 6 (by omega), e 3 (by omega), e 4 (by omega), e (-3) (by omega), e 7 (by omega)]
  unfold skb
  obtain ⟨g0, g1, g2, g3, g4, g5, g6, g7, g8, g9, g10, g11, g12⟩ := h3
  refine ⟨by omega, this.2 h2, g0, g1, g2, g3, g4, g5, g6, g7, g8, g9, g10, g11, fun i h0 h1 => ?_⟩
  rw [e _ (by omega)]
  obtain ⟨q1, q2, q3⟩ := g12 i h0 h1
  exact ⟨q1, q2, fun c c0 c1 => by rw [e _ (by omega)]; exact q3 c c0 c1⟩
theorem at_in {n p : Int} {sg : Int → Int} {lim : Int} (hl : lim ≤ 900) (h : 0 ≤ at_ n sg p - 48 ∧ at_ n sg p - 48 < lim) : p < n := by
  unfold at_ at h
  split at h
  · assumption
  · omega
theorem fW_ok {n p : Int} {sg : Int → Int} (hp : 0 ≤ p) (h : fW n sg p = -9) : at_ n sg p = 119 ∧ (0 ≤ at_ n sg (p + 1) - 48 ∧ at_ n sg (p + 1) - 48 < 10) ∧ (0 ≤ at_ n sg (p + 2) - 48 ∧ at_ n sg (p + 2) - 48 < 10) ∧ 10 * (at_ n sg (p + 1) - 48) + (at_ n sg (p + 2) - 48) ≤ 40 := by
  unfold fW at h
  omega
theorem fR_ok {n p : Int} {sg : Int → Int} (hp : 0 ≤ p) (h : fR n sg p = -9) : (0 ≤ at_ n sg (p + 1) - 48 ∧ at_ n sg (p + 1) - 48 < 4) ∧ (0 ≤ at_ n sg (p + 2) - 48 ∧ at_ n sg (p + 2) - 48 < 4) ∧ ¬ at_ n sg (p + 1) = at_ n sg (p + 2) := by
  unfold fR at h
  omega
theorem fG_ok {n p c : Int} {sg : Int → Int} (hp : 0 ≤ p) (h : fG n sg p c = -9) : 0 ≤ kOf (at_ n sg p) ∧ c < 6 ∧ (0 ≤ at_ n sg (p + 1) - 48 ∧ at_ n sg (p + 1) - 48 < 10) ∧ (0 ≤ at_ n sg (p + 2) - 48 ∧ at_ n sg (p + 2) - 48 < 10) ∧ (0 ≤ at_ n sg (p + 3) - 48 ∧ at_ n sg (p + 3) - 48 < 10) ∧ (0 ≤ at_ n sg (p + 4) - 48 ∧ at_ n sg (p + 4) - 48 < 10) := by
  unfold fG at h
  omega
theorem xok_pW {n : Int} {sg : Int → Int} {x : Int → Int} (h : xok n x) (hf : fW n sg (x (-1)) = -9) : xok n (pW n sg x) := by
  obtain ⟨h1, h2, g0, g1, g2, g3, g4, g5, g6, g7, g8, g9, g10, g11, g12⟩ := h
  obtain ⟨q1, q2, q3, q4⟩ := fW_ok h1 hf
  have q5 := at_in (by omega) q3
  have e : ∀ j, ¬ j = -1 → ¬ j = 1 → ¬ j = 2 → pW n sg x j = x j := fun j a b c => by unfold pW setf; rw [if_pos hf]; (try dsimp only); rw [if_neg c, if_neg b, if_neg a]
  have e1 : pW n sg x (-1) = x (-1) + 3 := by unfold pW setf; rw [if_pos hf]; (try dsimp only); rw [if_neg (by omega), if_neg (by omega), if_pos rfl]
  have e2 : pW n sg x 1 = 10 * (at_ n sg (x (-1) + 1) - 48) + (at_ n sg (x (-1) + 2) - 48) := by unfold pW setf; rw [if_pos hf]; (try dsimp only); rw [if_neg (by omega), if_pos rfl]
  have e3 : pW n sg x 2 = 10 * (at_ n sg (x (-1) + 1) - 48) + (at_ n sg (x (-1) + 2) - 48) := by unfold pW setf; rw [if_pos hf]; exact if_pos rfl
  unfold xok
  rw [e1, e2, e3, e 0 (by omega) (by omega) (by omega), e (-2) (by omega) (by omega) (by omega), e 5 (by omega) (by omega) (by omega), e 6 (by omega) (by omega) (by omega), e 3 (by omega) (by omega) (by omega), e 4 (by omega) (by omega) (by omega), e (-3) (by omega) (by omega) (by omega), e 7 (by omega) (by omega) (by omega)]
  refine ⟨by omega, by omega, g0, g1, by omega, by omega, rfl, g5, g6, g7, g8, g9, g10, g11, fun i h0 h1 => ?_⟩
  rw [e _ (by omega) (by omega) (by omega)]
  obtain ⟨q1, q2, q3⟩ := g12 i h0 h1
  exact ⟨q1, q2, fun c c0 c1 => by rw [e _ (by omega) (by omega) (by omega)]; exact q3 c c0 c1⟩
theorem xok_pR {n : Int} {sg : Int → Int} {x : Int → Int} (h : xok n x) (hf : fR n sg (x (-1)) = -9) : xok n (pR n sg x) := by
  obtain ⟨h1, h2, g0, g1, g2, g3, g4, g5, g6, g7, g8, g9, g10, g11, g12⟩ := h
  obtain ⟨q2, q3, q4⟩ := fR_ok h1 hf
  have q5 := at_in (by omega) q3
  have e : ∀ j, ¬ j = -1 → ¬ j = -3 → ¬ j = 7 → pR n sg x j = x j := fun j a b c => by unfold pR setf; rw [if_pos hf]; (try dsimp only); rw [if_neg c, if_neg b, if_neg a]
  have e1 : pR n sg x (-1) = x (-1) + 3 := by unfold pR setf; rw [if_pos hf]; (try dsimp only); rw [if_neg (by omega), if_neg (by omega), if_pos rfl]
  have e2 : inR (pR n sg x (-3)) := by unfold pR setf; rw [if_pos hf]; (try dsimp only); rw [if_neg (by omega), if_pos rfl]; exact inR_iOr _ _
  have e3 : inR (pR n sg x 7) := by unfold pR setf; rw [if_pos hf]; (try dsimp only); rw [if_pos rfl]; exact inR_iOr _ _
  unfold xok
  rw [e1, e 0 (by omega) (by omega) (by omega), e 1 (by omega) (by omega) (by omega), e 2 (by omega) (by omega) (by omega), e (-2) (by omega) (by omega) (by omega), e 5 (by omega) (by omega) (by omega), e 6 (by omega) (by omega) (by omega), e 3 (by omega) (by omega) (by omega), e 4 (by omega) (by omega) (by omega)]
  refine ⟨by omega, by omega, g0, g1, g2, g3, g4, g5, g6, g7, g8, g9, e2, e3, fun i h0 h1 => ?_⟩
  rw [e _ (by omega) (by omega) (by omega)]
  obtain ⟨q1, q2, q3⟩ := g12 i h0 h1
  exact ⟨q1, q2, fun c c0 c1 => by rw [e _ (by omega) (by omega) (by omega)]; exact q3 c c0 c1⟩
theorem xok_pG {n : Int} {sg : Int → Int} {x : Int → Int} (h : xok n x) (hf : fG n sg (x (-1)) (x 0) = -9) : xok n (pG n sg x) := by
  obtain ⟨h1, h2, g0, g1, g2, g3, g4, g5, g6, g7, g8, g9, g10, g11, g12⟩ := h
  obtain ⟨q0, q1, q2, q3, q4, q5⟩ := fG_ok h1 hf
  have q6 := at_in (by omega) q5
  have q7 := kOf_r (at_ n sg (x (-1)))
  have e0 : pG n sg x = pG1 n sg x := if_pos hf
  have e : ∀ j, ¬ j = -1 → ¬ j = 0 → ¬ (8 + 5 * x 0 ≤ j ∧ j < 13 + 5 * x 0) → pG n sg x j = x j := fun j a b c => by rw [e0]; unfold pG1; rw [if_neg a, if_neg b, if_neg (by omega), if_neg (by omega)]
  have e1 : pG n sg x (-1) = x (-1) + 5 := by rw [e0]; unfold pG1; rw [if_pos rfl]
  have e2 : pG n sg x 0 = x 0 + 1 := by rw [e0]; unfold pG1; rw [if_neg (by omega), if_pos rfl]
  unfold xok
  rw [e1, e2, e 1 (by omega) (by omega) (by omega), e 2 (by omega) (by omega) (by omega), e (-2) (by omega) (by omega) (by omega), e 5 (by omega) (by omega) (by omega), e 6 (by omega) (by omega) (by omega), e 3 (by omega) (by omega) (by omega), e 4 (by omega) (by omega) (by omega), e (-3) (by omega) (by omega) (by omega), e 7 (by omega) (by omega) (by omega)]
  refine ⟨by omega, by omega, by omega, by omega, g2, g3, g4, g5, g6, g7, g8, g9, g10, g11, fun i h0 h1 => ?_⟩
  by_cases hi : i = x 0
  · subst hi
    have e3 : pG n sg x (8 + 5 * x 0) = kOf (at_ n sg (x (-1))) := by rw [e0]; unfold pG1; rw [if_neg (by omega), if_neg (by omega), if_pos rfl]
    have e4 : ∀ c, 0 ≤ c → c < 4 → pG n sg x (9 + 5 * x 0 + c) = at_ n sg (x (-1) + 1 + c) - 48 := fun c c0 c1 => by rw [e0]; unfold pG1; rw [if_neg (by omega), if_neg (by omega), if_neg (by omega), if_pos (by omega), show 9 + 5 * x 0 + c - (9 + 5 * x 0) = c by omega]
    rw [e3]
    refine ⟨by omega, by omega, fun c c0 c1 => ?_⟩
    rw [e4 c c0 c1]
    rcases (show c = 0 ∨ c = 1 ∨ c = 2 ∨ c = 3 by omega) with rfl | rfl | rfl | rfl
    · rw [Int.add_zero]; omega
    · rw [show x (-1) + 1 + 1 = x (-1) + 2 by omega]; omega
    · rw [show x (-1) + 1 + 2 = x (-1) + 3 by omega]; omega
    · rw [show x (-1) + 1 + 3 = x (-1) + 4 by omega]; omega
  · rw [e _ (by omega) (by omega) (by omega)]
    obtain ⟨q1, q2, q3⟩ := g12 i h0 (by omega)
    exact ⟨q1, q2, fun c c0 c1 => by rw [e _ (by omega) (by omega) (by omega)]; exact q3 c c0 c1⟩
