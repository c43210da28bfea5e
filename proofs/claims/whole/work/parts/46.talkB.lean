/-! the searches of the class, as functions of eight numbers -/
theorem iAnd_assoc (a b c : Int) : iAnd (iAnd a b) c = iAnd a (iAnd b c) := by
  unfold iAnd
  rw [Int32.ofInt_toInt, Int32.ofInt_toInt, Int32.and_assoc]
theorem iAnd_15 {a : Int} (h0 : 0 ≤ a) (h1 : a < 16) : iAnd a 15 = a := by
  have key : ∀ n : Fin 16, iAnd (n.val : Int) 15 = (n.val : Int) := by decide +kernel
  have := key ⟨a.toNat, by omega⟩
  rwa [show ((a.toNat : Nat) : Int) = a by omega] at this
theorem iAnd_r {a b : Int} (h0 : 0 ≤ a) (h1 : a < 16) (g0 : 0 ≤ b) (g1 : b < 16) : 0 ≤ iAnd a b ∧ iAnd a b < 16 := by
  have key : ∀ n m : Fin 16, 0 ≤ iAnd (n.val : Int) (m.val : Int) ∧ iAnd (n.val : Int) (m.val : Int) < 16 := by decide +kernel
  have := key ⟨a.toNat, by omega⟩ ⟨b.toNat, by omega⟩
  rwa [show ((a.toNat : Nat) : Int) = a by omega, show ((b.toNat : Nat) : Int) = b by omega] at this
theorem hA_r (k0 : Int) (w : Int → Int) : 0 ≤ hA k0 w ∧ hA k0 w < 16 := hset_r _ _
theorem hB_r (k1 : Int) (w : Int → Int) : 0 ≤ hB k1 w ∧ hB k1 w < 16 := hset_r _ _
def shw (k0 k1 : Int) (w : Int → Int) : Int := iAnd (hA k0 w) (hB k1 w)
theorem shw_r (k0 k1 : Int) (w : Int → Int) : 0 ≤ shw k0 k1 w ∧ shw k0 k1 w < 16 := iAnd_r (hA_r k0 w).1 (hA_r k0 w).2 (hB_r k1 w).1 (hB_r k1 w).2
def tnw (k0 k1 : Int) (w : Int → Int) : Int := iOr (iAnd (hA k0 w) (iXor (hB k1 w) (-1))) (iShl (iAnd (hB k1 w) (iXor (hA k0 w) (-1))) 4)
def fsts (F : Int → Option (List Int)) : Nat → Int → Option (List Int)
  | 0, _ => none
  | k + 1, a => match F a with
    | some p => some (a :: p)
    | none => fsts F k (a + 1)
def rF (k0 k1 R wn : Int) : Nat → (Int → Int) → Option (List Int)
  | 0, w => if iXor (hA k0 w) (hB k1 w) = 0 ∧ iAnd (shw k0 k1 w) wn = wn then some [] else none
  | m + 1, w => fsts (fun a => if iAnd (iShr (tnw k0 k1 w) a) 1 = 0 then none else rF k0 k1 R wn m (utw k0 k1 R w a)) 8 0
def cT (k0 k1 R wn : Int) : Nat → (Int → Int) → Int
  | 0, w => if iAnd (shw k0 k1 w) wn = wn then 1 else 0
  | m + 1, w => 2 * bc (shw k0 k1 w) * cT k0 k1 R wn m w + sm (fun a => if iAnd (iShr (tnw k0 k1 w) a) 1 = 0 then 0 else cT k0 k1 R wn m (utw k0 k1 R w a)) 8
def an (F : Int → Int) (x : Int) : Nat → Int
  | 0 => x
  | n + 1 => iAnd (an F x n) (F n)
theorem an_up {F : Int → Int} {x i : Int} (h : 0 ≤ i) : an F x (i + 1).toNat = iAnd (an F x i.toNat) (F i) := by
  rw [show (i + 1).toNat = i.toNat + 1 by omega]
  show iAnd (an F x i.toNat) (F (i.toNat : Int)) = _
  rw [Int.toNat_of_nonneg h]
theorem an_r {F : Int → Int} {x : Int} (hx : 0 ≤ x ∧ x < 16) (hF : ∀ a, 0 ≤ F a ∧ F a < 16) : ∀ n, 0 ≤ an F x n ∧ an F x n < 16 := by
  intro n
  induction n with
  | zero => exact hx
  | succ n ih => exact iAnd_r ih.1 ih.2 (hF n).1 (hF n).2
def iT (k0 k1 R wn : Int) : Nat → (Int → Int) → Int
  | 0, w => if iAnd (shw k0 k1 w) wn = wn then shw k0 k1 w else 15
  | m + 1, w => an (fun a => if iAnd (iShr (tnw k0 k1 w) a) 1 = 0 then 15 else iT k0 k1 R wn m (utw k0 k1 R w a)) (if 2 * bc (shw k0 k1 w) ≤ 0 then 15 else iT k0 k1 R wn m w) 8
theorem iT_r (k0 k1 R wn : Int) : ∀ (m : Nat) (w : Int → Int), 0 ≤ iT k0 k1 R wn m w ∧ iT k0 k1 R wn m w < 16 := by
  intro m
  induction m with
  | zero =>
    intro w
    unfold iT
    split
    · exact shw_r k0 k1 w
    · omega
  | succ m ih =>
    intro w
    unfold iT
    refine an_r ?_ (fun a => ?_) 8
    · split
      · omega
      · exact ih w
    · split
      · omega
      · exact ih _
def bst (fl b v : Int) : Int := if b = -9 then v else if fl = 0 then (if v < b then v else b) else (if b < v then v else b)
def bsl (fl : Int) (F : Int → Option Int) (b : Int) : Nat → Int
  | 0 => b
  | n + 1 => match F n with
    | some v => bst fl (bsl fl F b n) v
    | none => bsl fl F b n
theorem bsl_up {fl : Int} {F : Int → Option Int} {b i : Int} (h : 0 ≤ i) : bsl fl F b (i + 1).toNat = match F i with
    | some v => bst fl (bsl fl F b i.toNat) v
    | none => bsl fl F b i.toNat := by
  rw [show (i + 1).toNat = i.toNat + 1 by omega]
  show (match F (i.toNat : Int) with
    | some v => bst fl (bsl fl F b i.toNat) v
    | none => bsl fl F b i.toNat) = _
  rw [Int.toNat_of_nonneg h]
def nfl (fl : Int) : Int := if fl = 0 then 1 else 0
def bF (k0 k1 R : Int) : Nat → Int → (Int → Int) → Int
  | 0, _, w => bc (shw k0 k1 w)
  | m + 1, fl, w =>
    let b := bsl fl (fun a => if iAnd (iShr (tnw k0 k1 w) a) 1 = 0 then none else some (bF k0 k1 R m (nfl fl) (utw k0 k1 R w a))) (if 2 * bc (shw k0 k1 w) ≤ 0 then -9 else bF k0 k1 R m (nfl fl) w) 8
    if b = -9 then 0 else b
def cnw (k0 k1 : Int) (w : Int → Int) (a : Int) : Prop := 0 ≤ a ∧ a < 8 ∧ ¬ iAnd (iShr (if a < 4 then hA k0 w else hB k1 w) (a % 4)) 1 = 0
def dF (k0 k1 R un : Int) (sc : Int → Int) : Nat → Int → (Int → Int) → Int → Int
  | 0, _, w => fun j => if j = iAnd (shw k0 k1 w) 15 then 1 else 0
  | m + 1, p, w => fun j => if 0 ≤ sc p ∧ sc p < 8 ∧ ¬ iAnd (iShr (if sc p < 4 then hA k0 w else hB k1 w) (sc p % 4)) 1 = 0 then un * dF k0 k1 R un sc m (p + 1) w j + (12 - un) * dF k0 k1 R un sc m (p + 1) (utw k0 k1 R w (sc p)) j else 12 * dF k0 k1 R un sc m (p + 1) w j
section TKB
variable {X : List Int32} {s : m_St} {k0 k1 R : Int} {w : Int → Int}
theorem tpr_tng (h : tpr s k0 k1 R w) : tng s = tnw k0 k1 w ∧ iAnd (s 67 2) (s 69 2) = shw k0 k1 w ∧ iXor (s 67 2) (s 69 2) = iXor (hA k0 w) (hB k1 w) := by
  obtain ⟨h1, h2⟩ := tpr_h h
  unfold tng tnw shw
  rw [h1, h2]
  exact ⟨rfl, rfl, rfl⟩
theorem sp_reaches0 {P : Option Value → m_St → Prop} : ∀ (m : Nat) (d : Nat) (e n : Int) (s : m_St) (w : Int → Int), 0 ≤ e → n ≤ 5 → e + m = n → tpr s k0 k1 R w → inR (s 66 4) →
    ∀ P : Option Value → m_St → Prop, (∀ (v : Int) (s' : m_St), (∀ c j, ¬ c = 71 → s' c j = s c j) → (∀ j, j < e → s' 71 j = s 71 j) → (match rF k0 k1 R (s 66 4) m w with
      | none => v = 0
      | some p => v = 1 ∧ ∀ i : Nat, i < p.length → s' 71 (e + i) = p.getD i 0) → P (some (vI v)) s') → Cl X (d + 5 + m) 112 [vR 66, vI e, vI n] s P := by
  intro m
  induction m with
  | zero =>
    intro d e n s w e0 n5 hen hp rw4 P k
    obtain ⟨h1, h2, h3⟩ := tpr_tng hp
    unfold rF at k
    have kk := fun v => k v s (fun _ _ _ => rfl) (fun _ _ => rfl)
    apply t_X4_reaches (d := d) e0 <;> intros
    all_goals first | omega | exact rw4 | skip
    · next g1 g2 => rw [h3] at g2; rw [if_neg (fun z => g2 z.1)] at kk; exact kk 0 rfl
    · next g1 g2 g3 => rw [h2] at g3; rw [if_neg (fun z => g3 z.2)] at kk; exact kk 0 rfl
    · next g1 g2 g3 => rw [h3] at g2; rw [h2] at g3; rw [if_pos ⟨g2, g3⟩] at kk; exact kk 1 ⟨rfl, fun i hi => absurd hi (Nat.not_lt_zero i)⟩
  | succ m ih =>
    intro d e n s w e0 n5 hen hp rw4 P k
    have loop : ∀ (j : Nat) (a : Int), 0 ≤ a → a + j = 8 → ∀ (s1 : m_St) (z5 z6 : Option Value), (∀ c i, ¬ c = 71 → s1 c i = s c i) → (∀ i, i < e → s1 71 i = s 71 i) →
        (∀ (v : Int) (s' : m_St), (∀ c i, ¬ c = 71 → s' c i = s c i) → (∀ i, i < e → s' 71 i = s 71 i) → (match fsts (fun a => if iAnd (iShr (tnw k0 k1 w) a) 1 = 0 then none else rF k0 k1 R (s 66 4) m (utw k0 k1 R w a)) j a with
          | none => v = 0
          | some p => v = 1 ∧ ∀ i : Nat, i < p.length → s' 71 (e + i) = p.getD i 0) → P (some (vI v)) s') →
        Rn X (d + (m + 1) + 5) 112 47 [some (vR 66), some (vI e), some (vI n), some (vI (tnw k0 k1 w)), some (vI a), z5, z6] [] s1 P := by
      intro j
      induction j with
      | zero =>
        intro a a0 ha s1 z5 z6 hs1 hs2 kk
        apply t_X4_reaches_47 (d := d + (m + 1)) e0 a0 <;> intros
        all_goals first | omega | skip
        exact kk 0 s1 hs1 hs2 rfl
      | succ j ihj =>
        intro a a0 ha s1 z5 z6 hs1 hs2 kk
        unfold fsts at kk
        have hp1 : tpr s1 k0 k1 R w := tpr_cong (fun c i c0 c1 => hs1 c i (by omega)) (hs1 66 2 (by omega)) hp
        have h4 : s1 66 4 = s 66 4 := hs1 66 4 (by omega)
        apply t_X4_reaches_47 (d := d + (m + 1)) e0 a0 <;> intros
        all_goals first | omega | exact hp1.1 | skip
        · next g1 g2 =>
          rw [if_pos g2] at kk
          exact ihj (a + 1) (by omega) (by omega) s1 z5 z6 hs1 hs2 kk
        · next g1 g2 =>
          rw [if_neg g2] at kk
          have hpu := tpr_ut hp1 a0 g1
          have hpu2 : tpr (m_upd (utS s1 a) 71 e a) k0 k1 R (utw k0 k1 R w a) := tpr_cong (fun c i c0 c1 => upd_nc (by omega)) (upd_nc (by omega)) hpu
          have o66 : ∀ i, m_upd (utS s1 a) 71 e a 66 i = s 66 i := fun i => by rw [upd_nc (by omega), utS_o (by omega)]; exact hs1 66 i (by omega)
          rw [show d + (m + 1) + 4 = d + 5 + m by omega]
          refine ih d (e + 1) n _ _ (by omega) n5 (by omega) hpu2 (by rw [o66]; exact rw4) _ (fun v s2 q1 q2 q3 => ?_)
          rw [o66] at q3
          show Rn X (d + (m + 1) + 5) 112 87 [some (vR 66), some (vI e), some (vI n), some (vI (tnw k0 k1 w)), some (vI a), some (vI (olw s1 a)), z6] [vI v] s2 P
          have htk2 : tkok s2 := tkok_cong (fun c i c0 c1 => q1 c i (by omega)) hpu2.1
          have hag : ∀ c i, 67 ≤ c → c ≤ 70 → s2 c i = utS s1 a c i := fun c i c0 c1 => by rw [q1 c i (by omega), upd_nc (by omega)]
          have htb := tb_gen hp1.1 a0 hag
          have f1 : ∀ c i, ¬ c = 71 → tbS s2 a (olw s1 a) c i = s c i := fun c i hc => by
            rw [htb]
            split
            · exact hs1 c i hc
            · rw [q1 c i hc, upd_nc hc, utS_o (by assumption)]
              exact hs1 c i hc
          have f2 : ∀ i, tbS s2 a (olw s1 a) 71 i = s2 71 i := fun i => by rw [htb, if_neg (by omega)]
          have f3 : ∀ i, i < e → tbS s2 a (olw s1 a) 71 i = s 71 i := fun i hi => by
            rw [f2, q2 i (by omega), upd_nj (by omega), utS_o (by omega)]
            exact hs2 i hi
          have f4 : s2 71 e = a := by rw [q2 e (by omega), upd_eq]
          cases hr : rF k0 k1 R (s 66 4) m (utw k0 k1 R w a) with
          | none =>
            rw [hr] at q3 kk
            dsimp only at q3 kk
            subst q3
            apply t_X4_reaches_87 (d := d + (m + 1)) e0 a0 g1 <;> intros
            all_goals first | exact htk2 | exact olw_r hp1.1 | omega | skip
            exact ihj (a + 1) (by omega) (by omega) _ _ _ f1 f3 kk
          | some p =>
            rw [hr] at q3 kk
            dsimp only at q3 kk
            obtain ⟨q3, q4⟩ := q3
            subst q3
            apply t_X4_reaches_87 (d := d + (m + 1)) e0 a0 g1 <;> intros
            all_goals first | exact htk2 | exact olw_r hp1.1 | omega | skip
            refine kk 1 _ f1 f3 ⟨rfl, fun i hi => ?_⟩
            rw [f2]
            cases i with
            | zero => rw [show e + ((0 : Nat) : Int) = e by omega, f4]; rfl
            | succ i =>
              rw [show e + ((i + 1 : Nat) : Int) = e + 1 + (i : Int) by omega, q4 i (by simpa using hi)]
              rfl
    obtain ⟨h1, h2, h3⟩ := tpr_tng hp
    rw [show d + 5 + (m + 1) = d + (m + 1) + 5 by omega]
    apply t_X4_reaches (d := d + (m + 1)) e0 <;> intros
    all_goals first | omega | skip
    rw [h1]
    exact loop 8 0 (by omega) (by omega) s none none (fun _ _ _ => rfl) (fun _ _ => rfl) k
end TKB
