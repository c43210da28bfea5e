/-! in how many ways: all sayings, or the turning ones and the idle ones together -/
set_option maxRecDepth 100000
def scd (k0 k1 c : Int) (w : Int → Int) : Prop := iAnd c (iXor (shw k0 k1 w) (-1)) = 0
theorem scd_iff {k0 k1 c : Int} {w : Int → Int} (c0 : 0 ≤ c) (c1 : c < 16) : scd k0 k1 c w ↔ iAnd (shw k0 k1 w) c = c := by
  obtain ⟨s, hs⟩ := fin16 (shw_r k0 k1 w).1 (shw_r k0 k1 w).2
  obtain ⟨x, hx⟩ := fin16 c0 c1
  unfold scd
  rw [← hs, ← hx, anx1]
noncomputable def gC (k0 k1 R c : Int) : Nat → (Int → Int) → Int
  | 0, w => @ite _ (scd k0 k1 c w) (Classical.propDecidable _) 1 0
  | m + 1, w => sm (fun a => @ite _ (cnb k0 k1 w a) (Classical.propDecidable _) (gC k0 k1 R c m (utw k0 k1 R w a)) 0) 8
noncomputable def gI (k0 k1 R c : Int) : Nat → (Int → Int) → Int
  | 0, w => @ite _ (scd k0 k1 c w) (Classical.propDecidable _) (shw k0 k1 w) 15
  | m + 1, w => an (fun a => @ite _ (cnb k0 k1 w a) (Classical.propDecidable _) (gI k0 k1 R c m (utw k0 k1 R w a)) 15) 15 8
/-- idle: said by one who holds it to one who holds it -/
def idl (k0 k1 : Int) (w : Int → Int) (a : Int) : Prop := cnb k0 k1 w a ∧ ¬ iAnd (iShr (if a / 4 = 0 then hB k1 w else hA k0 w) (a % 4)) 1 = 0
def i01 (A B a : Int) : Int := if iAnd (iShr (if a / 4 = 0 then A else B) (a % 4)) 1 = 1 ∧ ¬ iAnd (iShr (if a / 4 = 0 then B else A) (a % 4)) 1 = 0 then 1 else 0
theorem idn0 : ∀ A B : Fin 16, sm (i01 ((A : Nat) : Int) ((B : Nat) : Int)) 8 = 2 * bc (iAnd ((A : Nat) : Int) ((B : Nat) : Int)) := by decide +kernel
theorem idn {k0 k1 : Int} {w : Int → Int} : sm (i01 (hA k0 w) (hB k1 w)) 8 = 2 * bc (shw k0 k1 w) := by
  obtain ⟨x, hx⟩ := fin16 (hA_r k0 w).1 (hA_r k0 w).2
  obtain ⟨y, hy⟩ := fin16 (hB_r k1 w).1 (hB_r k1 w).2
  unfold shw
  rw [← hx, ← hy]
  exact idn0 x y
theorem cT_eqv {k0 k1 R wn : Int} : ∀ (m : Nat) (w w' : Int → Int), eqv k0 k1 w w' → cT k0 k1 R wn m w = cT k0 k1 R wn m w' := by
  intro m
  induction m with
  | zero =>
    intro w w' h
    obtain ⟨eT, eS⟩ := tnw_eqv h
    unfold cT
    rw [eS]
  | succ m ih =>
    intro w w' h
    obtain ⟨eT, eS⟩ := tnw_eqv h
    show 2 * bc (shw k0 k1 w) * cT k0 k1 R wn m w + sm _ 8 = 2 * bc (shw k0 k1 w') * cT k0 k1 R wn m w' + sm _ 8
    rw [eS, ih w w' h]
    congr 1
    refine sm_cong fun i hi => ?_
    rw [← eT]
    by_cases hc : iAnd (iShr (tnw k0 k1 w) (i : Int)) 1 = 0
    · rw [if_pos hc, if_pos hc]
    · rw [if_neg hc, if_neg hc]
      have ht := Classical.byContradiction (fun z => hc ((trn_iff (by omega) (by omega)).mpr z))
      exact ih _ _ (turn_eqv h (by omega) (by omega) ht.2)
theorem sm_mul {f g : Int → Int} {c : Int} : ∀ n : Nat, sm (fun i => f i * c + g i) n = sm f n * c + sm g n := by
  intro n
  induction n with
  | zero => show (0 : Int) = 0 * c + 0; omega
  | succ n ih =>
    rw [sm_s, sm_s, sm_s, ih, Int.add_mul]
    omega
theorem gC_cT {k0 k1 R c : Int} (c0 : 0 ≤ c) (c1 : c < 16) : ∀ (m : Nat) (w : Int → Int), w8 w → gC k0 k1 R c m w = cT k0 k1 R c m w := by
  intro m
  induction m with
  | zero =>
    intro w hw
    have e := scd_iff (k0 := k0) (k1 := k1) (w := w) c0 c1
    unfold gC cT
    by_cases h : scd k0 k1 c w
    · rw [if_pos h, if_pos (e.mp h)]
    · rw [if_neg h, if_neg (fun z => h (e.mpr z))]
  | succ m ih =>
    intro w hw
    show sm _ 8 = 2 * bc (shw k0 k1 w) * cT k0 k1 R c m w + sm (fun a => if iAnd (iShr (tnw k0 k1 w) a) 1 = 0 then 0 else cT k0 k1 R c m (utw k0 k1 R w a)) 8
    rw [← idn, ← sm_mul]
    refine sm_cong fun i hi => ?_
    have a0 : 0 ≤ ((i : Nat) : Int) := by omega
    have a8 : ((i : Nat) : Int) < 8 := by omega
    have ti := trn_iff (k0 := k0) (k1 := k1) (w := w) a0 a8
    unfold i01
    by_cases hb : cnb k0 k1 w i
    · rw [if_pos hb, ih _ (w8_utw hw)]
      by_cases hh : iAnd (iShr (if (i : Int) / 4 = 0 then hB k1 w else hA k0 w) ((i : Int) % 4)) 1 = 0
      · have ht : trn k0 k1 w i := ⟨hb, hh⟩
        rw [if_neg (fun z => z.2 hh), if_neg (fun z => (ti.mp z) ht)]
        omega
      · rw [if_pos ⟨hb, hh⟩, if_pos (ti.mpr (fun z => hh z.2)), cT_eqv m _ _ (idle_eqv hw a0 a8 hh)]
        omega
    · rw [if_neg hb, if_neg (fun z => hb z.1), if_pos (ti.mpr (fun z => hb z.1))]
      omega
