/-! what is idle changes nothing: both searches find the same at the least number -/
theorem xor0 : ∀ a b : Fin 16, (iXor ((a : Nat) : Int) ((b : Nat) : Int) = 0) ↔ a = b := by decide +kernel
theorem anx1 : ∀ c s : Fin 16, (iAnd ((c : Nat) : Int) (iXor ((s : Nat) : Int) (-1)) = 0) ↔ (iAnd ((s : Nat) : Int) ((c : Nat) : Int) = ((c : Nat) : Int)) := by decide +kernel
set_option maxRecDepth 100000
theorem trn0 : ∀ A B : Fin 16, ∀ a : Fin 8, (iAnd (iShr (iOr (iAnd ((A : Nat) : Int) (iXor ((B : Nat) : Int) (-1))) (iShl (iAnd ((B : Nat) : Int) (iXor ((A : Nat) : Int) (-1))) 4)) ((a : Nat) : Int)) 1 = 0) ↔ ¬ (iAnd (iShr (if ((a : Nat) : Int) / 4 = 0 then ((A : Nat) : Int) else ((B : Nat) : Int)) (((a : Nat) : Int) % 4)) 1 = 1 ∧ iAnd (iShr (if ((a : Nat) : Int) / 4 = 0 then ((B : Nat) : Int) else ((A : Nat) : Int)) (((a : Nat) : Int) % 4)) 1 = 0) := by decide +kernel
theorem fin16 {a : Int} (h0 : 0 ≤ a) (h1 : a < 16) : ∃ b : Fin 16, ((b : Nat) : Int) = a := ⟨⟨a.toNat, by omega⟩, by show ((a.toNat : Nat) : Int) = a; omega⟩
theorem fin8 {a : Int} (h0 : 0 ≤ a) (h1 : a < 8) : ∃ b : Fin 8, ((b : Nat) : Int) = a := ⟨⟨a.toNat, by omega⟩, by show ((a.toNat : Nat) : Int) = a; omega⟩
theorem mcd_iff {k0 k1 c : Int} {w : Int → Int} (c0 : 0 ≤ c) (c1 : c < 16) : mcd k0 k1 c w ↔ iXor (hA k0 w) (hB k1 w) = 0 ∧ iAnd (shw k0 k1 w) c = c := by
  obtain ⟨a, ha⟩ := fin16 (hA_r k0 w).1 (hA_r k0 w).2
  obtain ⟨b, hb⟩ := fin16 (hB_r k1 w).1 (hB_r k1 w).2
  obtain ⟨s, hs⟩ := fin16 (shw_r k0 k1 w).1 (shw_r k0 k1 w).2
  obtain ⟨x, hx⟩ := fin16 c0 c1
  unfold mcd
  rw [← ha, ← hb, ← hs, ← hx, xor0, anx1]
  constructor
  · intro ⟨h1, h2⟩
    refine ⟨Fin.ext ?_, h2⟩
    omega
  · intro ⟨h1, h2⟩
    exact ⟨by rw [h1], h2⟩
/-- a saying that can turn something -/
def trn (k0 k1 : Int) (w : Int → Int) (a : Int) : Prop := cnb k0 k1 w a ∧ iAnd (iShr (if a / 4 = 0 then hB k1 w else hA k0 w) (a % 4)) 1 = 0
theorem trn_iff {k0 k1 a : Int} {w : Int → Int} (a0 : 0 ≤ a) (a8 : a < 8) : iAnd (iShr (tnw k0 k1 w) a) 1 = 0 ↔ ¬ trn k0 k1 w a := by
  obtain ⟨x, hx⟩ := fin16 (hA_r k0 w).1 (hA_r k0 w).2
  obtain ⟨y, hy⟩ := fin16 (hB_r k1 w).1 (hB_r k1 w).2
  obtain ⟨z, hz⟩ := fin8 a0 a8
  unfold trn cnb tnw
  rw [← hx, ← hy, ← hz]
  exact trn0 x y z
theorem hbit {f : Int → Int} {t c : Int} (c0 : 0 ≤ c) (c4 : c < 4) : iAnd (iShr (hset f t) c) 1 = 0 ↔ ¬ t ≤ f c := by
  rw [bit_0 c0 (by omega), hset_bt (by omega), decide_eq_false_iff_not, show ((c.toNat : Nat) : Int) = c by omega]
/-- alike: the same held, the same weights where nothing is held -/
def eqv (k0 k1 : Int) (w w' : Int → Int) : Prop := ∀ c, 0 ≤ c → c < 4 → ((hf k0 ≤ w c ↔ hf k0 ≤ w' c) ∧ (¬ hf k0 ≤ w c → w c = w' c)) ∧ ((hf k1 ≤ w (4 + c) ↔ hf k1 ≤ w' (4 + c)) ∧ (¬ hf k1 ≤ w (4 + c) → w (4 + c) = w' (4 + c)))
theorem hset_iff {f g : Int → Int} {t : Int} (h : ∀ c, 0 ≤ c → c < 4 → (t ≤ f c ↔ t ≤ g c)) : hset f t = hset g t := by
  unfold hset
  have e : ∀ (c : Int) (v : Int), 0 ≤ c → c < 4 → (if t ≤ f c then v else 0) = if t ≤ g c then v else 0 := fun c v c0 c1 => by
    by_cases hc : t ≤ f c
    · rw [if_pos hc, if_pos ((h c c0 c1).mp hc)]
    · rw [if_neg hc, if_neg (fun z => hc ((h c c0 c1).mpr z))]
  rw [e 0 1 (by omega) (by omega), e 1 2 (by omega) (by omega), e 2 4 (by omega) (by omega), e 3 8 (by omega) (by omega)]
theorem eqv_h {k0 k1 : Int} {w w' : Int → Int} (h : eqv k0 k1 w w') : hA k0 w = hA k0 w' ∧ hB k1 w = hB k1 w' := ⟨hset_iff fun c c0 c1 => (h c c0 c1).1.1, hset_iff fun c c0 c1 => (h c c0 c1).2.1⟩
theorem mv_hold {k h R c : Int} (hb : ¬ iAnd (iShr h c) 1 = 0) : 0 ≤ mv k h R c := by
  unfold mv
  split
  · split
    · omega
    · split
      · omega
      · rw [if_neg (fun z => hb z.2)]; omega
  · split
    · omega
    · rw [if_neg (fun z => hb z.2)]; omega
/-- the weight that a saying gives -/
def nw (k0 k1 R : Int) (w : Int → Int) (a : Int) : Int := cl (w (ixw a) + (if a < 4 then mv k1 (hB k1 w) R (a % 4) else mv k0 (hA k0 w) R (a % 4)))
theorem utw_nw {k0 k1 R a : Int} {w : Int → Int} : utw k0 k1 R w a = setf w (ixw a) (nw k0 k1 R w a) := rfl
theorem idle_eqv {k0 k1 R a : Int} {w : Int → Int} (hw : w8 w) (a0 : 0 ≤ a) (a8 : a < 8) (hi : ¬ iAnd (iShr (if a / 4 = 0 then hB k1 w else hA k0 w) (a % 4)) 1 = 0) : eqv k0 k1 (utw k0 k1 R w a) w := by
  have f0 := hf_r k0
  have f1 := hf_r k1
  intro c c0 c4
  rw [utw_nw]
  by_cases h4 : a < 4
  · have hix : ixw a = 4 + a := if_pos h4
    rw [if_pos (by omega)] at hi
    have hm := mv_hold (k := k1) (h := hB k1 w) (R := R) hi
    have hh : hf k1 ≤ w (4 + a) := by
      have hbt := hbit (f := fun c => w (4 + c)) (t := hf k1) (c := a % 4) (by omega) (by omega)
      refine Classical.byContradiction (fun z => hi (hbt.mpr ?_))
      rw [show a % 4 = a by omega]
      exact z
    have hwa := hw (4 + a) (by omega) (by omega)
    have hn : nw k0 k1 R w a = cl (w (4 + a) + mv k1 (hB k1 w) R (a % 4)) := by unfold nw; rw [hix, if_pos h4]
    have hcl : cl (w (4 + a) + mv k1 (hB k1 w) R (a % 4)) = max 0 (min 20 (w (4 + a) + mv k1 (hB k1 w) R (a % 4))) := rfl
    rw [hix, hn, hcl, setf_o (by omega)]
    refine ⟨⟨Iff.rfl, fun _ => rfl⟩, ?_⟩
    by_cases hc : c = a
    · subst hc
      rw [setf_e]
      exact ⟨⟨fun _ => hh, fun _ => by omega⟩, fun z => by omega⟩
    · rw [setf_o (by omega)]
      exact ⟨Iff.rfl, fun _ => rfl⟩
  · have hix : ixw a = a - 4 := if_neg h4
    rw [if_neg (by omega)] at hi
    have hm := mv_hold (k := k0) (h := hA k0 w) (R := R) hi
    have hh : hf k0 ≤ w (a - 4) := by
      have hbt := hbit (f := w) (t := hf k0) (c := a % 4) (by omega) (by omega)
      refine Classical.byContradiction (fun z => hi (hbt.mpr ?_))
      rw [show a % 4 = a - 4 by omega]
      exact z
    have hwa := hw (a - 4) (by omega) (by omega)
    have hn : nw k0 k1 R w a = cl (w (a - 4) + mv k0 (hA k0 w) R (a % 4)) := by unfold nw; rw [hix, if_neg h4]
    have hcl : cl (w (a - 4) + mv k0 (hA k0 w) R (a % 4)) = max 0 (min 20 (w (a - 4) + mv k0 (hA k0 w) R (a % 4))) := rfl
    rw [hix, hn, hcl, setf_o (j := 4 + c) (by omega)]
    refine ⟨?_, ⟨Iff.rfl, fun _ => rfl⟩⟩
    by_cases hc : c = a - 4
    · subst hc
      rw [setf_e]
      exact ⟨⟨fun _ => hh, fun _ => by omega⟩, fun z => by omega⟩
    · rw [setf_o hc]
      exact ⟨Iff.rfl, fun _ => rfl⟩
theorem turn_eqv {k0 k1 R a : Int} {w w' : Int → Int} (h : eqv k0 k1 w w') (a0 : 0 ≤ a) (a8 : a < 8) (ht : iAnd (iShr (if a / 4 = 0 then hB k1 w else hA k0 w) (a % 4)) 1 = 0) : eqv k0 k1 (utw k0 k1 R w a) (utw k0 k1 R w' a) := by
  obtain ⟨eA, eB⟩ := eqv_h h
  have hix : ixw a = if a < 4 then 4 + a else a - 4 := rfl
  have ew : w (ixw a) = w' (ixw a) := by
    by_cases h4 : a < 4
    · rw [if_pos (by omega)] at ht
      have := (hbit (f := fun c => w (4 + c)) (t := hf k1) (c := a % 4) (by omega) (by omega)).mp ht
      rw [show a % 4 = a by omega] at this
      rw [hix, if_pos h4]
      exact (h a a0 h4).2.2 this
    · rw [if_neg (by omega)] at ht
      have := (hbit (f := w) (t := hf k0) (c := a % 4) (by omega) (by omega)).mp ht
      rw [show a % 4 = a - 4 by omega] at this
      rw [hix, if_neg h4]
      exact (h (a - 4) (by omega) (by omega)).1.2 this
  have en : nw k0 k1 R w a = nw k0 k1 R w' a := by unfold nw; rw [ew, eA, eB]
  intro c c0 c4
  obtain ⟨⟨h1, h2⟩, h3, h4⟩ := h c c0 c4
  rw [utw_nw, utw_nw, en]
  refine ⟨?_, ?_⟩
  · by_cases hc : c = ixw a
    · rw [← hc, setf_e, setf_e]
      exact ⟨Iff.rfl, fun _ => rfl⟩
    · rw [setf_o hc, setf_o hc]
      exact ⟨h1, h2⟩
  · by_cases hc : 4 + c = ixw a
    · rw [hc, setf_e, setf_e]
      exact ⟨Iff.rfl, fun _ => rfl⟩
    · rw [setf_o hc, setf_o hc]
      exact ⟨h3, h4⟩
theorem fsts_cong {F G : Int → Option (List Int)} : ∀ (k : Nat) (a : Int), (∀ i : Nat, i < k → F (a + i) = G (a + i)) → fsts F k a = fsts G k a := by
  intro k
  induction k with
  | zero => intro a _; rfl
  | succ k ih =>
    intro a h
    have h0 := h 0 (by omega)
    rw [show a + ((0 : Nat) : Int) = a by omega] at h0
    have hr := ih (a + 1) (fun i hi => by
      have := h (i + 1) (by omega)
      rw [show a + ((i + 1 : Nat) : Int) = a + 1 + (i : Int) by omega] at this
      exact this)
    show (match F a with | some p => some (a :: p) | none => fsts F k (a + 1)) = (match G a with | some p => some (a :: p) | none => fsts G k (a + 1))
    rw [h0, hr]
theorem fsts_none {F : Int → Option (List Int)} : ∀ (k : Nat) (a : Int), fsts F k a = none → ∀ i : Nat, i < k → F (a + i) = none := by
  intro k
  induction k with
  | zero => intro a _ i hi; omega
  | succ k ih =>
    intro a h i hi
    cases hF : F a with
    | some p => rw [fsts_s hF] at h; cases h
    | none =>
      rw [fsts_n hF] at h
      by_cases h0 : i = 0
      · subst h0
        rw [show a + ((0 : Nat) : Int) = a by omega]
        exact hF
      · have := ih (a + 1) h (i - 1) (by omega)
        rw [show a + 1 + ((i - 1 : Nat) : Int) = a + (i : Int) by omega] at this
        exact this
theorem tnw_eqv {k0 k1 : Int} {w w' : Int → Int} (h : eqv k0 k1 w w') : tnw k0 k1 w = tnw k0 k1 w' ∧ shw k0 k1 w = shw k0 k1 w' := by
  obtain ⟨eA, eB⟩ := eqv_h h
  unfold tnw shw
  rw [eA, eB]
  exact ⟨rfl, rfl⟩
theorem rF_eqv {k0 k1 R wn : Int} : ∀ (m : Nat) (w w' : Int → Int), eqv k0 k1 w w' → rF k0 k1 R wn m w = rF k0 k1 R wn m w' := by
  intro m
  induction m with
  | zero =>
    intro w w' h
    obtain ⟨eA, eB⟩ := eqv_h h
    obtain ⟨eT, eS⟩ := tnw_eqv h
    unfold rF
    rw [eA, eB, eS]
  | succ m ih =>
    intro w w' h
    obtain ⟨eT, eS⟩ := tnw_eqv h
    show fsts _ 8 0 = fsts _ 8 0
    refine fsts_cong 8 0 (fun i hi => ?_)
    rw [← eT]
    by_cases hc : iAnd (iShr (tnw k0 k1 w) (0 + (i : Int))) 1 = 0
    · rw [if_pos hc, if_pos hc]
    · rw [if_neg hc, if_neg hc]
      have ht := Classical.byContradiction (fun z => hc ((trn_iff (by omega) (by omega)).mpr z))
      exact ih _ _ (turn_eqv h (by omega) (by omega) ht.2)
theorem gF_rF {k0 k1 R c : Int} (c0 : 0 ≤ c) (c1 : c < 16) : ∀ (m : Nat) (w : Int → Int), w8 w → (∀ j : Nat, j < m → rF k0 k1 R c j w = none) → gF k0 k1 R c m w = rF k0 k1 R c m w := by
  intro m
  induction m with
  | zero =>
    intro w hw _
    have e := mcd_iff (k0 := k0) (k1 := k1) (w := w) c0 c1
    by_cases h : mcd k0 k1 c w
    · rw [gF_y h]
      unfold rF
      rw [if_pos (e.mp h)]
    · rw [gF_n h]
      unfold rF
      rw [if_neg (fun z => h (e.mpr z))]
  | succ m ih =>
    intro w hw hn
    show fsts (gG k0 k1 R c m w) 8 0 = fsts (fun a => if iAnd (iShr (tnw k0 k1 w) a) 1 = 0 then none else rF k0 k1 R c m (utw k0 k1 R w a)) 8 0
    refine fsts_cong 8 0 (fun i hi => ?_)
    have a0 : 0 ≤ (0 : Int) + i := by omega
    have a8 : (0 : Int) + i < 8 := by omega
    by_cases ht : trn k0 k1 w (0 + i)
    · have hc : ¬ iAnd (iShr (tnw k0 k1 w) (0 + (i : Int))) 1 = 0 := fun z => (trn_iff a0 a8).mp z ht
      rw [gG_y ht.1, if_neg hc]
      refine ih _ (w8_utw hw) (fun j hj => ?_)
      have h1 := fsts_none 8 0 (hn (j + 1) (by omega)) i hi
      rw [if_neg hc] at h1
      exact h1
    · have hc : iAnd (iShr (tnw k0 k1 w) (0 + (i : Int))) 1 = 0 := (trn_iff a0 a8).mpr ht
      rw [if_pos hc]
      by_cases hb : cnb k0 k1 w (0 + i)
      · have he := idle_eqv (R := R) hw a0 a8 (fun z => ht ⟨hb, z⟩)
        rw [gG_y hb, ih _ (w8_utw hw) (fun j hj => by rw [rF_eqv j _ _ he]; exact hn j (by omega)), rF_eqv m _ _ he]
        exact hn m (by omega)
      · exact gG_n hb
