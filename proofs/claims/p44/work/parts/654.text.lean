/-! a text read as it is laid, item behind item -/
theorem iAnd_leN {x m : Int} {M : Nat} (hm : (Int32.ofInt m).toBitVec.toNat = M) (hM : M < 2147483648) : 0 ≤ iAnd x m ∧ iAnd x m ≤ (M : Int) := by
  have e : iAnd x m = ((Int32.ofInt x).toBitVec &&& (Int32.ofInt m).toBitVec).toInt := rfl
  have hn : ((Int32.ofInt x).toBitVec &&& (Int32.ofInt m).toBitVec).toNat ≤ M := by
    rw [BitVec.toNat_and, hm]
    exact Nat.and_le_right
  rw [e, BitVec.toInt_eq_toNat_of_lt (by omega)]
  omega
theorem iAnd_x1 (x : Int) : 0 ≤ iAnd x 1 ∧ iAnd x 1 ≤ 1 := iAnd_leN (M := 1) (by decide +kernel) (by decide)
theorem iAnd_x3 (x : Int) : 0 ≤ iAnd x 3 ∧ iAnd x 3 ≤ 3 := iAnd_leN (M := 3) (by decide +kernel) (by decide)
theorem iAnd_x0 (x : Int) : iAnd x 0 = 0 := by
  have := iAnd_leN (x := x) (m := 0) (M := 0) (by decide +kernel) (by decide)
  omega
theorem i2B_all : ∀ v : Fin 128, i2B ((v : Nat) : Int) = ((v : Nat) : Int) := by decide +kernel
theorem i2B_id {v : Int} (h0 : 0 ≤ v) (h1 : v < 128) : i2B v = v := by
  have := i2B_all ⟨v.toNat, by omega⟩
  rw [show (((⟨v.toNat, by omega⟩ : Fin 128) : Nat) : Int) = v by show ((v.toNat : Nat) : Int) = v; omega] at this
  exact this
theorem kOf_ltr {k : Int} (h0 : 0 ≤ k) (h6 : k < 6) : kOf (ltr k) = k := by
  rcases (show k = 0 ∨ k = 1 ∨ k = 2 ∨ k = 3 ∨ k = 4 ∨ k = 5 by omega) with rfl | rfl | rfl | rfl | rfl | rfl <;> rfl
theorem ltr_r (k : Int) : 97 ≤ ltr k ∧ ltr k ≤ 109 ∧ ¬ ltr k = 102 := by unfold ltr; omega
theorem setf_e {x : Int → Int} {k v : Int} : setf x k v k = v := if_pos rfl
theorem setf_o {x : Int → Int} {k v j : Int} (h : ¬ j = k) : setf x k v j = x j := if_neg h
theorem setf_tw {x : Int → Int} {k u v : Int} : setf (setf x k u) k v = setf x k v := by
  funext j
  unfold setf
  split <;> rfl
/-- blanks up to b -/
theorem skb_to {n a b : Int} {sg : Int → Int} (ha : a ≤ b) (hb : b ≤ n) (hs : ∀ j, a ≤ j → j < b → sg j = 32) (he : b = n ∨ ¬ sg b = 32) : skb n sg a = b := by
  have key : ∀ (k : Nat) (a : Int), a ≤ b → a + k = b → (∀ j, a ≤ j → j < b → sg j = 32) → skb n sg a = b := by
    intro k
    induction k with
    | zero =>
      intro a ha hk hs
      obtain rfl : a = b := by omega
      exact skb_no (by rcases he with q | q <;> omega)
    | succ k ih =>
      intro a ha hk hs
      rw [skb_up (by omega) (hs a (by omega) (by omega))]
      exact ih (a + 1) (by omega) (by omega) (fun j j0 j1 => hs j (by omega) j1)
  exact key (b - a).toNat a ha (by omega) hs
/-- up to a the text is read: x; c items behind the first -/
def RD (sg : Int → Int) (a : Int) (c : Nat) (x : Int → Int) : Prop := x (-1) = a ∧ x (-2) = -9 ∧ 0 ≤ a ∧ a ≤ 60 ∧ ∀ sg' : Int → Int, (∀ j, 0 ≤ j → j < a → sg' j = sg j) → rdx 60 sg' = pL 60 sg' (60 - c) (skp 60 sg' x)
theorem RD_agree {sg sg2 : Int → Int} {a : Int} {c : Nat} {x : Int → Int} (h : RD sg a c x) (e : ∀ j, 0 ≤ j → j < a → sg2 j = sg j) : RD sg2 a c x := by
  obtain ⟨h1, h2, h3, h4, h5⟩ := h
  exact ⟨h1, h2, h3, h4, fun sg' he => h5 sg' (fun j j0 j1 => by rw [he j j0 j1, e j j0 j1])⟩
def xwood (b w : Int) : Int → Int := setf (setf (setf x0 (-1) (b + 3)) 1 w) 2 w
theorem RD_wood {sg : Int → Int} {b w : Int} (b0 : 0 ≤ b) (b1 : b ≤ 1) (w0 : 0 ≤ w) (w4 : w ≤ 40) (hb : b = 1 → sg 0 = 32) (h1 : sg b = 119) (h2 : sg (b + 1) = 48 + w / 10) (h3 : sg (b + 2) = 48 + w % 10) : RD sg (b + 3) 0 (xwood b w) := by
  refine ⟨?_, ?_, by omega, by omega, fun sg' he => ?_⟩
  · unfold xwood
    rw [setf_o (by decide), setf_o (by decide), setf_e]
  · unfold xwood
    rw [setf_o (by decide), setf_o (by decide), setf_o (by decide)]
    rfl
  have s1 : sg' b = 119 := by rw [he b (by omega) (by omega), h1]
  have s2 : sg' (b + 1) = 48 + w / 10 := by rw [he (b + 1) (by omega) (by omega), h2]
  have s3 : sg' (b + 2) = 48 + w % 10 := by rw [he (b + 2) (by omega) (by omega), h3]
  have hk : skp 60 sg' x0 = setf x0 (-1) b := by
    unfold skp
    rw [show x0 (-1) = 0 from rfl, skb_to (b := b) (by omega) (by omega) (fun j j0 j1 => by
      rw [show j = 0 by omega, he 0 (by omega) (by omega), hb (by omega)]) (Or.inr (by rw [s1]; decide))]
  have a1 : at_ 60 sg' b = 119 := by unfold at_; rw [if_pos (by omega), s1]
  have a2 : at_ 60 sg' (b + 1) = 48 + w / 10 := by unfold at_; rw [if_pos (by omega), s2]
  have a3 : at_ 60 sg' (b + 2) = 48 + w % 10 := by unfold at_; rw [if_pos (by omega), s3]
  have e1 : (setf x0 (-1) b) (-1) = b := setf_e
  have hf : fW 60 sg' b = -9 := by
    unfold fW
    rw [a1, a2, a3]
    rw [if_neg (by omega), if_neg (by omega), if_neg (by omega), if_neg (by omega)]
  have hp : pW 60 sg' (setf x0 (-1) b) = xwood b w := by
    unfold pW
    rw [e1, if_pos hf, a2, a3, setf_tw, show 10 * (48 + w / 10 - 48) + (48 + w % 10 - 48) = w by omega]
    rfl
  show pL 60 sg' 60 (skp 60 sg' (pW 60 sg' (skp 60 sg' x0))) = _
  rw [hk, hp]
theorem RD_step {sg sg2 : Int → Int} {a b q : Int} {c : Nat} {x x' : Int → Int} (h : RD sg a c x) (hc : c < 60) (hab : a ≤ b) (hbq : b < q) (hq : q ≤ 60) (e : ∀ j, 0 ≤ j → j < a → sg2 j = sg j) (hs : ∀ j, a ≤ j → j < b → sg2 j = 32) (hne : ¬ sg2 b = 32) (x1 : x' (-1) = q) (x2 : x' (-2) = -9)
    (hx : ∀ sg' : Int → Int, (∀ j, 0 ≤ j → j < q → sg' j = sg2 j) → pI 60 sg' (setf x (-1) b) = skp 60 sg' x') : RD sg2 q (c + 1) x' := by
  obtain ⟨h1, h2, h3, h4, h5⟩ := h
  refine ⟨x1, x2, by omega, hq, fun sg' he => ?_⟩
  have hk : skp 60 sg' x = setf x (-1) b := by
    unfold skp
    rw [h1, skb_to (b := b) hab (by omega) (fun j j0 j1 => by rw [he j (by omega) (by omega), hs j j0 j1]) (Or.inr (by rw [he b (by omega) (by omega)]; exact hne))]
  rw [h5 sg' (fun j j0 j1 => by rw [he j j0 (by omega), e j j0 j1]), hk, show 60 - c = (60 - (c + 1)) + 1 by omega]
  show (if (setf x (-1) b) (-2) = -9 ∧ (setf x (-1) b) (-1) < 60 then pL 60 sg' (60 - (c + 1)) (pI 60 sg' (setf x (-1) b)) else _) = _
  rw [setf_o (by decide), setf_e, if_pos ⟨h2, by omega⟩, hx sg' he]
def xpair (x : Int → Int) (b f t : Int) : Int → Int := setf (setf (setf x (-1) (b + 3)) (-3) (iOr (x (-3)) (iShl 1 (4 * t + f)))) 7 (iOr (x 7) (iShl 1 (4 * f + t)))
theorem RD_pair {sg sg2 : Int → Int} {a b f t : Int} {c : Nat} {x : Int → Int} (h : RD sg a c x) (hc : c < 60) (hab : a ≤ b) (hb : b + 3 ≤ 60) (e : ∀ j, 0 ≤ j → j < a → sg2 j = sg j) (hs : ∀ j, a ≤ j → j < b → sg2 j = 32) (f0 : 0 ≤ f) (f4 : f < 4) (t0 : 0 ≤ t) (t4 : t < 4) (hne : ¬ f = t) (h1 : sg2 b = 102) (h2 : sg2 (b + 1) = 48 + f) (h3 : sg2 (b + 2) = 48 + t) : RD sg2 (b + 3) (c + 1) (xpair x b f t) := by
  have x2 := h.2.1
  have a0 := h.2.2.1
  refine RD_step h hc hab (by omega) hb e hs (by rw [h1]; decide) ?_ ?_ (fun sg' he => ?_)
  · unfold xpair
    rw [setf_o (by decide), setf_o (by decide), setf_e]
  · unfold xpair
    rw [setf_o (by decide), setf_o (by decide), setf_o (by decide)]
    exact x2
  have a1 : at_ 60 sg' b = 102 := by unfold at_; rw [if_pos (by omega), he b (by omega) (by omega), h1]
  have a2 : at_ 60 sg' (b + 1) = 48 + f := by unfold at_; rw [if_pos (by omega), he (b + 1) (by omega) (by omega), h2]
  have a3 : at_ 60 sg' (b + 2) = 48 + t := by unfold at_; rw [if_pos (by omega), he (b + 2) (by omega) (by omega), h3]
  have hf : fR 60 sg' b = -9 := by
    unfold fR
    rw [a2, a3]
    rw [if_neg (by omega), if_neg (by omega), if_neg (by omega)]
  unfold pI
  rw [setf_e, a1, if_pos rfl]
  congr 1
  unfold pR
  rw [setf_e, if_pos hf, a2, a3, setf_tw, setf_o (by decide), setf_o (by decide), show 48 + f - 48 = f by omega, show 48 + t - 48 = t by omega]
  rfl
def xguest (x : Int → Int) (b k : Int) (wt : Int → Int) : Int → Int := fun j => if j = -1 then b + 5 else if j = 0 then x 0 + 1 else if j = 8 + 5 * x 0 then k else if 9 + 5 * x 0 ≤ j ∧ j < 13 + 5 * x 0 then wt (j - (9 + 5 * x 0)) else x j
theorem RD_guest {sg sg2 : Int → Int} {a b k : Int} {wt : Int → Int} {c : Nat} {x : Int → Int} (h : RD sg a c x) (hc : c < 60) (hab : a ≤ b) (hb : b + 5 ≤ 60) (e : ∀ j, 0 ≤ j → j < a → sg2 j = sg j) (hs : ∀ j, a ≤ j → j < b → sg2 j = 32) (g0 : 0 ≤ x 0) (g6 : x 0 < 6) (k0 : 0 ≤ k) (k6 : k < 6) (h1 : sg2 b = ltr k) (hw : ∀ c, 0 ≤ c → c < 4 → sg2 (b + 1 + c) = 48 + wt c ∧ 0 ≤ wt c ∧ wt c ≤ 9) : RD sg2 (b + 5) (c + 1) (xguest x b k wt) := by
  have x2 := h.2.1
  have a0 := h.2.2.1
  have hl := ltr_r k
  refine RD_step h hc hab (by omega) hb e hs (by rw [h1]; omega) ?_ ?_ (fun sg' he => ?_)
  · unfold xguest
    exact if_pos rfl
  · unfold xguest
    rw [if_neg (by decide), if_neg (by decide), if_neg (by omega), if_neg (by omega)]
    exact x2
  have a1 : at_ 60 sg' b = ltr k := by unfold at_; rw [if_pos (by omega), he b (by omega) (by omega), h1]
  have aw : ∀ c, 0 ≤ c → c < 4 → at_ 60 sg' (b + 1 + c) = 48 + wt c := fun c c0 c4 => by
    unfold at_
    rw [if_pos (by omega), he (b + 1 + c) (by omega) (by omega), (hw c c0 c4).1]
  have w0 := hw 0 (by decide) (by decide)
  have w1 := hw 1 (by decide) (by decide)
  have w2 := hw 2 (by decide) (by decide)
  have w3 := hw 3 (by decide) (by decide)
  have b0 : at_ 60 sg' (b + 1) = 48 + wt 0 := by have := aw 0 (by decide) (by decide); rw [Int.add_zero] at this; exact this
  have b1 : at_ 60 sg' (b + 2) = 48 + wt 1 := by have := aw 1 (by decide) (by decide); rw [show b + 1 + 1 = b + 2 by omega] at this; exact this
  have b2 : at_ 60 sg' (b + 3) = 48 + wt 2 := by have := aw 2 (by decide) (by decide); rw [show b + 1 + 2 = b + 3 by omega] at this; exact this
  have b3 : at_ 60 sg' (b + 4) = 48 + wt 3 := by have := aw 3 (by decide) (by decide); rw [show b + 1 + 3 = b + 4 by omega] at this; exact this
  have hf : fG 60 sg' b (x 0) = -9 := by
    unfold fG
    rw [a1, b0, b1, b2, b3, kOf_ltr k0 k6]
    rw [if_neg (by omega), if_neg (by omega), if_neg (by omega), if_neg (by omega), if_neg (by omega)]
  unfold pI
  rw [setf_e, a1, if_neg hl.2.2]
  congr 1
  unfold pG
  rw [setf_e, setf_o (by decide), if_pos hf]
  funext j
  unfold pG1 xguest
  rw [setf_e, setf_o (j := 0) (by decide), a1, kOf_ltr k0 k6]
  by_cases j1 : j = -1
  · rw [if_pos j1, if_pos j1]
  · rw [if_neg j1, if_neg j1]
    by_cases j2 : j = 0
    · rw [if_pos j2, if_pos j2]
    · rw [if_neg j2, if_neg j2]
      by_cases j3 : j = 8 + 5 * x 0
      · rw [if_pos j3, if_pos j3]
      · rw [if_neg j3, if_neg j3]
        by_cases j4 : 9 + 5 * x 0 ≤ j ∧ j < 13 + 5 * x 0
        · rw [if_pos j4, if_pos j4, aw _ (by omega) (by omega)]
          omega
        · rw [if_neg j4, if_neg j4, setf_o j1]
theorem RD_end {sg : Int → Int} {a : Int} {c : Nat} {x : Int → Int} (h : RD sg a c x) (hs : ∀ j, a ≤ j → j < 60 → sg j = 32) : rdx 60 sg = setf x (-1) 60 := by
  obtain ⟨h1, h2, h3, h4, h5⟩ := h
  have hk : skp 60 sg x = setf x (-1) 60 := by
    unfold skp
    rw [h1, skb_to (b := 60) h4 (by decide) hs (Or.inl rfl)]
  rw [h5 sg (fun _ _ _ => rfl), hk, pL_out]
  rw [setf_e]
  omega
/-- what is read so far: pd pairs, gd guests of the law's -/
def PX (s : m_St) (x : Int → Int) (w pd gd : Int) : Prop := x 0 = gd ∧ x 1 = w ∧ x 2 = w ∧ x 5 = 0 ∧ x 6 = 0 ∧ trL (x (-3)) (s 77) pd.toNat ∧ ∀ i, 0 ≤ i → i < gd → x (8 + 5 * i) = s 78 (5 * i) ∧ ∀ c, 0 ≤ c → c < 4 → x (9 + 5 * i + c) = s 78 (5 * i + 1 + c)
theorem PX_wood {s : m_St} {b w : Int} : PX s (xwood b w) w 0 0 := by
  refine ⟨rfl, rfl, rfl, rfl, rfl, fun i c i4 c4 => ?_, fun i i0 i1 => by omega⟩
  have e : xwood b w (-3) = 0 := by
    unfold xwood
    rw [setf_o (by decide), setf_o (by decide), setf_o (by decide)]
    rfl
  rw [e, bt_0]
  constructor
  · intro z; cases z
  · intro z; exact absurd rfl z
theorem PX_pair {s : m_St} {x : Int → Int} {w pd gd b : Int} (h : PX s x w pd gd) (p0 : 0 ≤ pd) (f0 : 0 ≤ s 77 (2 * pd)) (f4 : s 77 (2 * pd) < 4) (t0 : 0 ≤ s 77 (2 * pd + 1)) (t4 : s 77 (2 * pd + 1) < 4) : PX s (xpair x b (s 77 (2 * pd)) (s 77 (2 * pd + 1))) w (pd + 1) gd := by
  obtain ⟨h1, h2, h3, h5, h6, h7, h8⟩ := h
  have o : ∀ j, ¬ j = -1 → ¬ j = -3 → ¬ j = 7 → xpair x b (s 77 (2 * pd)) (s 77 (2 * pd + 1)) j = x j := fun j j1 j3 j7 => by
    unfold xpair
    rw [setf_o j7, setf_o j3, setf_o j1]
  have e3 : xpair x b (s 77 (2 * pd)) (s 77 (2 * pd + 1)) (-3) = iOr (x (-3)) (iShl 1 (4 * s 77 (2 * pd + 1) + s 77 (2 * pd))) := by
    unfold xpair
    rw [setf_o (by decide), setf_e]
  refine ⟨by rw [o 0 (by decide) (by decide) (by decide)]; exact h1, by rw [o 1 (by decide) (by decide) (by decide)]; exact h2, by rw [o 2 (by decide) (by decide) (by decide)]; exact h3, by rw [o 5 (by decide) (by decide) (by decide)]; exact h5, by rw [o 6 (by decide) (by decide) (by decide)]; exact h6, fun i c i4 c4 => ?_, fun i i0 i1 => ?_⟩
  · rw [e3, bt_or, bt_shl (by omega) (by omega) (by omega), tld_up p0, Bool.or_eq_true, h7 i c i4 c4, decide_eq_true_eq]
    have hb := tld_b (s 77) (i : Int) (c : Int) pd.toNat
    constructor
    · intro z
      rcases z with z | z
      · rw [if_pos z]; decide
      · by_cases q : ¬ tld (s 77) pd.toNat (i : Int) (c : Int) = 0
        · rw [if_pos q]; decide
        · rw [if_neg q, if_pos ⟨by omega, by omega⟩]; decide
    · intro z
      by_cases q : ¬ tld (s 77) pd.toNat (i : Int) (c : Int) = 0
      · exact Or.inl q
      · rw [if_neg q] at z
        right
        by_cases q2 : s 77 (2 * pd) = (i : Int) ∧ s 77 (2 * pd + 1) = (c : Int)
        · omega
        · rw [if_neg q2] at z
          exact absurd rfl z
  · rw [o (8 + 5 * i) (by omega) (by omega) (by omega)]
    obtain ⟨y1, y2⟩ := h8 i i0 i1
    refine ⟨y1, fun c c0 c1 => ?_⟩
    rw [o (9 + 5 * i + c) (by omega) (by omega) (by omega)]
    exact y2 c c0 c1
theorem PX_guest {s : m_St} {x : Int → Int} {w pd gd b : Int} (h : PX s x w pd gd) (g0 : 0 ≤ gd) : PX s (xguest x b (s 78 (5 * gd)) (fun c => s 78 (5 * gd + 1 + c))) w pd (gd + 1) := by
  obtain ⟨h1, h2, h3, h5, h6, h7, h8⟩ := h
  have o : ∀ j, ¬ j = -1 → ¬ j = 0 → ¬ (8 + 5 * gd ≤ j ∧ j < 13 + 5 * gd) → xguest x b (s 78 (5 * gd)) (fun c => s 78 (5 * gd + 1 + c)) j = x j := fun j j1 j3 j7 => by
    unfold xguest
    rw [if_neg j1, if_neg j3, h1, if_neg (by omega), if_neg (by omega)]
  refine ⟨?_, by rw [o 1 (by decide) (by decide) (by omega)]; exact h2, by rw [o 2 (by decide) (by decide) (by omega)]; exact h3, by rw [o 5 (by decide) (by decide) (by omega)]; exact h5, by rw [o 6 (by decide) (by decide) (by omega)]; exact h6, by rw [o (-3) (by decide) (by decide) (by omega)]; exact h7, fun i i0 i1 => ?_⟩
  · show (if (0 : Int) = -1 then _ else if (0 : Int) = 0 then x 0 + 1 else _) = _
    rw [if_neg (by decide), if_pos rfl, h1]
  · by_cases hi : i = gd
    · subst hi
      refine ⟨?_, fun c c0 c1 => ?_⟩
      · unfold xguest
        rw [if_neg (by omega), if_neg (by omega), h1, if_pos rfl]
      · unfold xguest
        rw [if_neg (by omega), if_neg (by omega), h1, if_neg (by omega), if_pos ⟨by omega, by omega⟩]
        show s 78 (5 * i + 1 + (9 + 5 * i + c - (9 + 5 * i))) = _
        rw [show 9 + 5 * i + c - (9 + 5 * i) = c by omega]
    · obtain ⟨y1, y2⟩ := h8 i i0 (by omega)
      rw [o (8 + 5 * i) (by omega) (by omega) (by omega)]
      refine ⟨y1, fun c c0 c1 => ?_⟩
      rw [o (9 + 5 * i + c) (by omega) (by omega) (by omega)]
      exact y2 c c0 c1
