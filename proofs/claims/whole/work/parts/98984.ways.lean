/-! in how many ways: all sayings, or the turning ones and the idle ones together -/
set_option maxRecDepth 100000
def scd (k0 k1 c : Int) (w : Int → Int) : Prop := iAnd c (iXor (shw k0 k1 w) (-1)) = 0
theorem scd_iff {k0 k1 c : Int} {w : Int → Int} (c0 : 0 ≤ c) (c1 : c < 16) : scd k0 k1 c w ↔ iAnd (shw k0 k1 w) c = c := by
  obtain ⟨s, hs⟩ := fin16 (shw_r k0 k1 w).1 (shw_r k0 k1 w).2
  obtain ⟨x, hx⟩ := fin16 c0 c1
  unfold scd
  rw [← hs, ← hx, anx1]
noncomputable def gC (k0 k1 R c : Int) : Nat → (Int → Int) → Int
  | 0, w => @ite _ (scd k0 k1 c w) (Classical.propDecidable _) 1 0
  | m + 1, w => sm (fun a => @ite _ (cnb k0 k1 w a) (Classical.propDecidable _) (gC k0 k1 R c m (utw k0 k1 R w a)) 0) 8
noncomputable def gI (k0 k1 R c : Int) : Nat → (Int → Int) → Int
  | 0, w => @ite _ (scd k0 k1 c w) (Classical.propDecidable _) (shw k0 k1 w) 15
  | m + 1, w => an (fun a => @ite _ (cnb k0 k1 w a) (Classical.propDecidable _) (gI k0 k1 R c m (utw k0 k1 R w a)) 15) 15 8
/-- idle: said by one who holds it to one who holds it -/
def idl (k0 k1 : Int) (w : Int → Int) (a : Int) : Prop := cnb k0 k1 w a ∧ ¬ iAnd (iShr (if a / 4 = 0 then hB k1 w else hA k0 w) (a % 4)) 1 = 0
def i01 (A B a : Int) : Int := if iAnd (iShr (if a / 4 = 0 then A else B) (a % 4)) 1 = 1 ∧ ¬ iAnd (iShr (if a / 4 = 0 then B else A) (a % 4)) 1 = 0 then 1 else 0
theorem idn0 : ∀ A B : Fin 16, sm (i01 ((A : Nat) : Int) ((B : Nat) : Int)) 8 = 2 * bc (iAnd ((A : Nat) : Int) ((B : Nat) : Int)) := by decide +kernel
theorem idn {k0 k1 : Int} {w : Int → Int} : sm (i01 (hA k0 w) (hB k1 w)) 8 = 2 * bc (shw k0 k1 w) := by
  obtain ⟨x, hx⟩ := fin16 (hA_r k0 w).1 (hA_r k0 w).2
  obtain ⟨y, hy⟩ := fin16 (hB_r k1 w).1 (hB_r k1 w).2
  unfold shw
  rw [← hx, ← hy]
  exact idn0 x y
theorem cT_eqv {k0 k1 R wn : Int} : ∀ (m : Nat) (w w' : Int → Int), eqv k0 k1 w w' → cT k0 k1 R wn m w = cT k0 k1 R wn m w' := by
  intro m
  induction m with
  | zero =>
    intro w w' h
    obtain ⟨eT, eS⟩ := tnw_eqv h
    unfold cT
    rw [eS]
  | succ m ih =>
    intro w w' h
    obtain ⟨eT, eS⟩ := tnw_eqv h
    show 2 * bc (shw k0 k1 w) * cT k0 k1 R wn m w + sm _ 8 = 2 * bc (shw k0 k1 w') * cT k0 k1 R wn m w' + sm _ 8
    rw [eS, ih w w' h]
    congr 1
    refine sm_cong fun i hi => ?_
    rw [← eT]
    by_cases hc : iAnd (iShr (tnw k0 k1 w) (i : Int)) 1 = 0
    · rw [if_pos hc, if_pos hc]
    · rw [if_neg hc, if_neg hc]
      have ht := Classical.byContradiction (fun z => hc ((trn_iff (by omega) (by omega)).mpr z))
      exact ih _ _ (turn_eqv h (by omega) (by omega) ht.2)
theorem sm_mul {f g : Int → Int} {c : Int} : ∀ n : Nat, sm (fun i => f i * c + g i) n = sm f n * c + sm g n := by
  intro n
  induction n with
  | zero => show (0 : Int) = 0 * c + 0; omega
  | succ n ih =>
    rw [sm_s, sm_s, sm_s, ih, Int.add_mul]
    omega
theorem gC_cT {k0 k1 R c : Int} (c0 : 0 ≤ c) (c1 : c < 16) : ∀ (m : Nat) (w : Int → Int), w8 w → gC k0 k1 R c m w = cT k0 k1 R c m w := by
  intro m
  induction m with
  | zero =>
    intro w hw
    have e := scd_iff (k0 := k0) (k1 := k1) (w := w) c0 c1
    unfold gC cT
    by_cases h : scd k0 k1 c w
    · rw [if_pos h, if_pos (e.mp h)]
    · rw [if_neg h, if_neg (fun z => h (e.mpr z))]
  | succ m ih =>
    intro w hw
    show sm _ 8 = 2 * bc (shw k0 k1 w) * cT k0 k1 R c m w + sm (fun a => if iAnd (iShr (tnw k0 k1 w) a) 1 = 0 then 0 else cT k0 k1 R c m (utw k0 k1 R w a)) 8
    rw [← idn, ← sm_mul]
    refine sm_cong fun i hi => ?_
    have a0 : 0 ≤ ((i : Nat) : Int) := by omega
    have a8 : ((i : Nat) : Int) < 8 := by omega
    have ti := trn_iff (k0 := k0) (k1 := k1) (w := w) a0 a8
    unfold i01
    by_cases hb : cnb k0 k1 w i
    · rw [if_pos hb, ih _ (w8_utw hw)]
      by_cases hh : iAnd (iShr (if (i : Int) / 4 = 0 then hB k1 w else hA k0 w) ((i : Int) % 4)) 1 = 0
      · have ht : trn k0 k1 w i := ⟨hb, hh⟩
        rw [if_neg (fun z => z.2 hh), if_neg (fun z => (ti.mp z) ht)]
        omega
      · rw [if_pos ⟨hb, hh⟩, if_pos (ti.mpr (fun z => hh z.2)), cT_eqv m _ _ (idle_eqv hw a0 a8 hh)]
        omega
    · rw [if_neg hb, if_neg (fun z => hb z.1), if_pos (ti.mpr (fun z => hb z.1))]
      omega
theorem iAnd_comm (a b : Int) : iAnd a b = iAnd b a := bt_ext (inR_iAnd _ _) (inR_iAnd _ _) (fun k _ => by rw [bt_and, bt_and, Bool.and_comm])
theorem iAnd_self {a : Int} (ha : inR a) : iAnd a a = a := bt_ext (inR_iAnd _ _) ha (fun k _ => by rw [bt_and, Bool.and_self])
theorem an_s (F : Int → Int) (x : Int) (n : Nat) : an F x (n + 1) = iAnd (an F x n) (F n) := rfl
theorem an_split {G E : Int → Int} {x y : Int} : ∀ n : Nat, an (fun a => iAnd (G a) (E a)) (iAnd x y) n = iAnd (an G x n) (an E y n) := by
  intro n
  induction n with
  | zero => rfl
  | succ n ih =>
    rw [an_s, an_s, an_s, ih]
    refine bt_ext (inR_iAnd _ _) (inR_iAnd _ _) (fun k _ => ?_)
    simp only [bt_and]
    cases bt (an G x n) k <;> cases bt (an E y n) k <;> cases bt (G n) k <;> cases bt (E n) k <;> rfl
theorem an_x {G : Int → Int} {x : Int} (x0 : 0 ≤ x) (x1 : x < 16) : ∀ n : Nat, an G x n = iAnd (an G 15 n) x := by
  intro n
  induction n with
  | zero =>
    show x = iAnd 15 x
    rw [iAnd_comm, iAnd_15 x0 x1]
  | succ n ih =>
    rw [an_s, an_s, ih, iAnd_assoc, iAnd_assoc, iAnd_comm x]
theorem an_congr {F G : Int → Int} {x : Int} : ∀ n : Nat, (∀ i : Nat, i < n → F i = G i) → an F x n = an G x n := by
  intro n
  induction n with
  | zero => intro _; rfl
  | succ n ih =>
    intro h
    rw [an_s, an_s, ih (fun i hi => h i (by omega)), h n (by omega)]
theorem an_E {E f : Int → Int} {v : Int} (v0 : 0 ≤ v) (v1 : v < 16) (hf_ : ∀ i, f i = 0 ∨ f i = 1) (hE : ∀ i, E i = if f i = 1 then v else 15) : ∀ n : Nat, an E 15 n = if 0 < sm f n then v else 15 := by
  intro n
  induction n with
  | zero =>
    show (15 : Int) = if 0 < (0 : Int) then v else 15
    rw [if_neg (by omega)]
  | succ n ih =>
    have hr := sm_01 hf_ n
    rw [an_s, ih, sm_s, hE]
    rcases hf_ (n : Int) with h0 | h1
    · rw [if_neg (show ¬ f (n : Int) = 1 by omega), h0, Int.add_zero]
      by_cases hc : 0 < sm f n
      · rw [if_pos hc, iAnd_15 v0 v1]
      · rw [if_neg hc, iAnd_15 (by omega) (by omega)]
    · rw [if_pos h1, h1, if_pos (show 0 < sm f n + 1 by omega)]
      by_cases hc : 0 < sm f n
      · rw [if_pos hc, iAnd_self (by omega)]
      · rw [if_neg hc, iAnd_comm, iAnd_15 v0 v1]
theorem iT_eqv {k0 k1 R wn : Int} : ∀ (m : Nat) (w w' : Int → Int), eqv k0 k1 w w' → iT k0 k1 R wn m w = iT k0 k1 R wn m w' := by
  intro m
  induction m with
  | zero =>
    intro w w' h
    obtain ⟨eT, eS⟩ := tnw_eqv h
    unfold iT
    rw [eS]
  | succ m ih =>
    intro w w' h
    obtain ⟨eT, eS⟩ := tnw_eqv h
    show an _ (if 2 * bc (shw k0 k1 w) ≤ 0 then 15 else iT k0 k1 R wn m w) 8 = an _ (if 2 * bc (shw k0 k1 w') ≤ 0 then 15 else iT k0 k1 R wn m w') 8
    rw [eS, ih w w' h]
    refine an_congr 8 (fun i hi => ?_)
    rw [← eT]
    by_cases hc : iAnd (iShr (tnw k0 k1 w) (i : Int)) 1 = 0
    · rw [if_pos hc, if_pos hc]
    · rw [if_neg hc, if_neg hc]
      have ht := Classical.byContradiction (fun z => hc ((trn_iff (by omega) (by omega)).mpr z))
      exact ih _ _ (turn_eqv h (by omega) (by omega) ht.2)
theorem i01_r (A B a : Int) : i01 A B a = 0 ∨ i01 A B a = 1 := by
  unfold i01
  repeat' split
  all_goals first | exact Or.inr rfl | exact Or.inl rfl
theorem gI_iT {k0 k1 R c : Int} (c0 : 0 ≤ c) (c1 : c < 16) : ∀ (m : Nat) (w : Int → Int), w8 w → gI k0 k1 R c m w = iT k0 k1 R c m w := by
  intro m
  induction m with
  | zero =>
    intro w hw
    have e := scd_iff (k0 := k0) (k1 := k1) (w := w) c0 c1
    unfold gI iT
    by_cases h : scd k0 k1 c w
    · rw [if_pos h, if_pos (e.mp h)]
    · rw [if_neg h, if_neg (fun z => h (e.mpr z))]
  | succ m ih =>
    intro w hw
    have vr := iT_r k0 k1 R c m w
    show an _ 15 8 = an (fun a => if iAnd (iShr (tnw k0 k1 w) a) 1 = 0 then 15 else iT k0 k1 R c m (utw k0 k1 R w a)) (if 2 * bc (shw k0 k1 w) ≤ 0 then 15 else iT k0 k1 R c m w) 8
    have sp := an_split (G := fun a => if iAnd (iShr (tnw k0 k1 w) a) 1 = 0 then 15 else iT k0 k1 R c m (utw k0 k1 R w a)) (E := fun a => if i01 (hA k0 w) (hB k1 w) a = 1 then iT k0 k1 R c m w else 15) (x := 15) (y := 15) 8
    rw [iAnd_self (by decide), an_E vr.1 vr.2 (fun i => i01_r _ _ _) (fun i => rfl) 8, idn] at sp
    have hx : an (fun a => if iAnd (iShr (tnw k0 k1 w) a) 1 = 0 then 15 else iT k0 k1 R c m (utw k0 k1 R w a)) (if 2 * bc (shw k0 k1 w) ≤ 0 then 15 else iT k0 k1 R c m w) 8 = iAnd (an (fun a => if iAnd (iShr (tnw k0 k1 w) a) 1 = 0 then 15 else iT k0 k1 R c m (utw k0 k1 R w a)) 15 8) (if 0 < 2 * bc (shw k0 k1 w) then iT k0 k1 R c m w else 15) := by
      by_cases hb : 2 * bc (shw k0 k1 w) ≤ 0
      · rw [if_pos hb, if_neg (by omega)]
        exact an_x (by omega) (by omega) 8
      · rw [if_neg hb, if_pos (by omega)]
        exact an_x vr.1 vr.2 8
    rw [hx, ← sp]
    refine an_congr 8 (fun i hi => ?_)
    have a0 : 0 ≤ ((i : Nat) : Int) := by omega
    have a8 : ((i : Nat) : Int) < 8 := by omega
    have ti := trn_iff (k0 := k0) (k1 := k1) (w := w) a0 a8
    by_cases hb : cnb k0 k1 w i
    · rw [if_pos hb, ih _ (w8_utw hw)]
      have ur := iT_r k0 k1 R c m (utw k0 k1 R w i)
      by_cases hh : iAnd (iShr (if (i : Int) / 4 = 0 then hB k1 w else hA k0 w) ((i : Int) % 4)) 1 = 0
      · have ht : trn k0 k1 w i := ⟨hb, hh⟩
        have ei : i01 (hA k0 w) (hB k1 w) i = 0 := if_neg (fun z => z.2 hh)
        rw [if_neg (fun z => (ti.mp z) ht), ei, if_neg (show ¬ (0 : Int) = 1 by decide), iAnd_15 ur.1 ur.2]
      · have ei : i01 (hA k0 w) (hB k1 w) i = 1 := if_pos ⟨hb, hh⟩
        rw [if_pos (ti.mpr (fun z => hh z.2)), ei, if_pos rfl, iAnd_comm, iAnd_15 vr.1 vr.2, iT_eqv m _ _ (idle_eqv hw a0 a8 hh)]
    · have ei : i01 (hA k0 w) (hB k1 w) i = 0 := if_neg (fun z => hb z.1)
      rw [if_neg hb, if_pos (ti.mpr (fun z => hb z.1)), ei, if_neg (show ¬ (0 : Int) = 1 by decide), iAnd_self (by decide)]
