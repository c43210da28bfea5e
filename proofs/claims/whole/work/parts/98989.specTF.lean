/-! by turns: the best of all sayings, or of the turning ones and what is idle -/
def flq (q : Int) : Int := if q % 2 = 0 then 1 else 0
theorem flq_s {q : Int} (h : 0 ≤ q) : flq (q + 1) = nfl (flq q) := by
  unfold flq nfl
  by_cases h0 : q % 2 = 0
  · rw [if_neg (by omega), if_pos h0, if_neg (by omega)]
  · rw [if_pos (by omega), if_neg h0, if_pos rfl]
section SPTF
variable {X : List Int32} {d : Nat} {s : m_St} {P : Option Value → m_St → Prop} {q v : Int}
theorem sp_comes (q0 : 0 ≤ q) (q6 : q < 6) (h : inR (s 91 q)) (hv : inR v) (kk : P none (m_upd s 91 q (bst (flq q) (s 91 q) v))) : Cl X (d + 1) 239 [vR 77, vI q, vI v] s P := by
  unfold bst flq at kk
  by_cases h9 : s 91 q = -9
  · rw [if_pos h9] at kk
    apply t_X6_comes q0 q6 <;> intros
    all_goals first | omega | exact kk
  · rw [if_neg h9] at kk
    by_cases hq : q % 2 = 0
    · rw [if_pos hq, if_neg (by decide)] at kk
      by_cases hl : s 91 q < v
      · rw [if_pos hl] at kk
        apply t_X6_comes q0 q6 <;> intros
        all_goals first | omega | exact kk
      · rw [if_neg hl] at kk
        apply t_X6_comes q0 q6 <;> intros
        all_goals first | omega | exact kk
    · rw [if_neg hq, if_pos rfl] at kk
      by_cases hl : v < s 91 q
      · rw [if_pos hl] at kk
        apply t_X6_comes q0 q6 <;> intros
        all_goals first | omega | exact kk
      · rw [if_neg hl] at kk
        apply t_X6_comes q0 q6 <;> intros
        all_goals first | omega | exact kk
end SPTF
/-- the best of a set -/
def isB (fl : Int) (S : Int → Prop) (v : Int) : Prop := (v = -9 ∧ ∀ x, ¬ S x) ∨ (S v ∧ ∀ x, S x → (fl = 0 → v ≤ x) ∧ (¬ fl = 0 → x ≤ v))
theorem isB_uniq {fl v v' : Int} {S S' : Int → Prop} (hS : ∀ x, S x ↔ S' x) (h : isB fl S v) (h' : isB fl S' v') : v = v' := by
  rcases h with ⟨h1, h2⟩ | ⟨h1, h2⟩
  · rcases h' with ⟨g1, g2⟩ | ⟨g1, g2⟩
    · rw [h1, g1]
    · exact absurd ((hS v').mpr g1) (h2 v')
  · rcases h' with ⟨g1, g2⟩ | ⟨g1, g2⟩
    · exact absurd ((hS v).mp h1) (g2 v)
    · have a := h2 v' ((hS v').mpr g1)
      have b := g2 v ((hS v).mp h1)
      by_cases hf : fl = 0
      · have a1 := a.1 hf
        have b1 := b.1 hf
        clear h2 g2 a b
        omega
      · have a1 := a.2 hf
        have b1 := b.2 hf
        clear h2 g2 a b
        omega
theorem isB_bst {fl b v : Int} {S : Int → Prop} (hS : ∀ x, S x → 0 ≤ x) (h : isB fl S b) (v0 : 0 ≤ v) : isB fl (fun x => S x ∨ x = v) (bst fl b v) := by
  unfold bst
  rcases h with ⟨h1, h2⟩ | ⟨h1, h2⟩
  · rw [if_pos h1]
    refine Or.inr ⟨Or.inr rfl, fun x hx => ?_⟩
    rcases hx with hx | hx
    · exact absurd hx (h2 x)
    · rw [hx]; exact ⟨fun _ => Int.le_refl _, fun _ => Int.le_refl _⟩
  · have b0 := hS b h1
    rw [if_neg (show ¬ b = -9 by clear h2 hS; omega)]
    by_cases hf : fl = 0
    · rw [if_pos hf]
      by_cases hl : v < b
      · rw [if_pos hl]
        refine Or.inr ⟨Or.inr rfl, fun x hx => ⟨fun _ => ?_, fun z => absurd hf z⟩⟩
        rcases hx with hx | hx
        · have := (h2 x hx).1 hf
          clear h2 hS
          omega
        · rw [hx]; exact Int.le_refl _
      · rw [if_neg hl]
        refine Or.inr ⟨Or.inl h1, fun x hx => ⟨fun _ => ?_, fun z => absurd hf z⟩⟩
        rcases hx with hx | hx
        · exact (h2 x hx).1 hf
        · clear h2 hS; omega
    · rw [if_neg hf]
      by_cases hl : b < v
      · rw [if_pos hl]
        refine Or.inr ⟨Or.inr rfl, fun x hx => ⟨fun z => absurd z hf, fun _ => ?_⟩⟩
        rcases hx with hx | hx
        · have := (h2 x hx).2 hf
          clear h2 hS
          omega
        · rw [hx]; exact Int.le_refl _
      · rw [if_neg hl]
        refine Or.inr ⟨Or.inl h1, fun x hx => ⟨fun z => absurd z hf, fun _ => ?_⟩⟩
        rcases hx with hx | hx
        · exact (h2 x hx).2 hf
        · clear h2 hS; omega
theorem bsl_s {fl b : Int} {F : Int → Option Int} {n : Nat} : bsl fl F b (n + 1) = match F n with
    | some v => bst fl (bsl fl F b n) v
    | none => bsl fl F b n := rfl
theorem isB_bsl {fl b : Int} {F : Int → Option Int} (hb : b = -9 ∨ 0 ≤ b) (hF : ∀ i v, F i = some v → 0 ≤ v) : ∀ n : Nat, isB fl (fun x => (x = b ∧ 0 ≤ b) ∨ ∃ i : Nat, i < n ∧ F i = some x) (bsl fl F b n) := by
  intro n
  induction n with
  | zero =>
    show isB fl _ b
    rcases hb with hb | hb
    · refine Or.inl ⟨hb, fun x hx => ?_⟩
      rcases hx with hx | ⟨i, hi, _⟩
      · omega
      · omega
    · refine Or.inr ⟨Or.inl ⟨rfl, hb⟩, fun x hx => ?_⟩
      rcases hx with ⟨hx, _⟩ | ⟨i, hi, _⟩
      · rw [hx]; exact ⟨fun _ => Int.le_refl _, fun _ => Int.le_refl _⟩
      · omega
  | succ n ih =>
    rw [bsl_s]
    have ext : ∀ {S S' : Int → Prop} {v : Int}, (∀ x, S x ↔ S' x) → isB fl S v → isB fl S' v := fun {S S' v} hs h => by
      have : S = S' := funext fun x => propext (hs x)
      rw [← this]; exact h
    cases hn : F n with
    | none =>
      refine ext (fun x => ?_) ih
      constructor
      · intro h
        rcases h with h | ⟨i, hi, e⟩
        · exact Or.inl h
        · exact Or.inr ⟨i, by omega, e⟩
      · intro h
        rcases h with h | ⟨i, hi, e⟩
        · exact Or.inl h
        · by_cases hin : i = n
          · rw [hin, hn] at e; cases e
          · exact Or.inr ⟨i, by omega, e⟩
    | some v =>
      refine ext (fun x => ?_) (isB_bst (fun x hx => ?_) ih (hF _ _ hn))
      · constructor
        · intro h
          rcases h with (h | ⟨i, hi, e⟩) | h
          · exact Or.inl h
          · exact Or.inr ⟨i, by omega, e⟩
          · exact Or.inr ⟨n, by omega, by rw [hn, h]⟩
        · intro h
          rcases h with h | ⟨i, hi, e⟩
          · exact Or.inl (Or.inl h)
          · by_cases hin : i = n
            · rw [hin, hn] at e
              injection e with e
              exact Or.inr e.symm
            · exact Or.inl (Or.inr ⟨i, by omega, e⟩)
      · rcases hx with ⟨hx, h0⟩ | ⟨i, hi, e⟩
        · omega
        · exact hF _ _ e
theorem bst_in {fl b v : Int} (hb : b = -9 ∨ (0 ≤ b ∧ b ≤ 4)) (hv : 0 ≤ v ∧ v ≤ 4) : bst fl b v = -9 ∨ (0 ≤ bst fl b v ∧ bst fl b v ≤ 4) := by
  unfold bst
  by_cases h9 : b = -9
  · rw [if_pos h9]; exact Or.inr hv
  · rw [if_neg h9]
    have hb : 0 ≤ b ∧ b ≤ 4 := by omega
    by_cases hf : fl = 0
    · rw [if_pos hf]
      by_cases hl : v < b
      · rw [if_pos hl]; exact Or.inr hv
      · rw [if_neg hl]; exact Or.inr hb
    · rw [if_neg hf]
      by_cases hl : b < v
      · rw [if_pos hl]; exact Or.inr hv
      · rw [if_neg hl]; exact Or.inr hb
theorem bsl_in {fl b : Int} {F : Int → Option Int} (hb : b = -9 ∨ (0 ≤ b ∧ b ≤ 4)) (hF : ∀ i v, F i = some v → 0 ≤ v ∧ v ≤ 4) : ∀ n : Nat, bsl fl F b n = -9 ∨ (0 ≤ bsl fl F b n ∧ bsl fl F b n ≤ 4) := by
  intro n
  induction n with
  | zero => exact hb
  | succ n ih =>
    rw [bsl_s]
    cases hn : F n with
    | none => exact ih
    | some v =>
      exact bst_in ih (hF _ _ hn)
theorem bsl_none {fl b : Int} {F : Int → Option Int} : ∀ n : Nat, (∀ i : Nat, i < n → F i = none) → bsl fl F b n = b := by
  intro n
  induction n with
  | zero => intro _; rfl
  | succ n ih =>
    intro h
    rw [bsl_s, h n (by omega)]
    exact ih (fun i hi => h i (by omega))
theorem sm_ex {f : Int → Int} (h : ∀ i, f i = 0 ∨ f i = 1) : ∀ n : Nat, 0 < sm f n ↔ ∃ i : Nat, i < n ∧ f i = 1 := by
  intro n
  induction n with
  | zero =>
    constructor
    · intro z
      have : (0 : Int) < 0 := z
      omega
    · intro ⟨i, hi, _⟩
      omega
  | succ n ih =>
    rw [sm_s]
    have r := sm_01 h n
    rcases h n with h0 | h1
    · rw [h0, Int.add_zero, ih]
      constructor
      · intro ⟨i, hi, e⟩
        exact ⟨i, by omega, e⟩
      · intro ⟨i, hi, e⟩
        by_cases hin : i = n
        · rw [hin, h0] at e; omega
        · exact ⟨i, by omega, e⟩
    · rw [h1]
      exact ⟨fun _ => ⟨n, by omega, h1⟩, fun _ => by clear ih; omega⟩
def fixb (b v : Int) : Int := if b = -9 then v else b
noncomputable def gBF (g : Int → Int) (k0 k1 : Int) (w : Int → Int) : Int → Option Int := fun a => @ite _ (cnb k0 k1 w a) (Classical.propDecidable _) (some (g a)) none
theorem gBF_y {g : Int → Int} {k0 k1 a : Int} {w : Int → Int} (h : cnb k0 k1 w a) : gBF g k0 k1 w a = some (g a) := @if_pos _ (Classical.propDecidable _) h _ _ _
theorem gBF_n {g : Int → Int} {k0 k1 a : Int} {w : Int → Int} (h : ¬ cnb k0 k1 w a) : gBF g k0 k1 w a = none := @if_neg _ (Classical.propDecidable _) h _ _ _
noncomputable def gB (k0 k1 R : Int) : Nat → Int → (Int → Int) → Int
  | 0, _, w => bc (shw k0 k1 w)
  | m + 1, fl, w => fixb (bsl fl (gBF (fun a => gB k0 k1 R m (nfl fl) (utw k0 k1 R w a)) k0 k1 w) (-9) 8) (gB k0 k1 R m (nfl fl) w)
def bFF (g : Int → Int) (k0 k1 : Int) (w : Int → Int) : Int → Option Int := fun a => if iAnd (iShr (tnw k0 k1 w) a) 1 = 0 then none else some (g a)
theorem bF_s {k0 k1 R fl : Int} {m : Nat} {w : Int → Int} : bF k0 k1 R (m + 1) fl w = fixb (bsl fl (bFF (fun a => bF k0 k1 R m (nfl fl) (utw k0 k1 R w a)) k0 k1 w) (if 2 * bc (shw k0 k1 w) ≤ 0 then -9 else bF k0 k1 R m (nfl fl) w) 8) 0 := rfl
theorem bsl_cong {fl b : Int} {F G : Int → Option Int} : ∀ n : Nat, (∀ i : Nat, i < n → F i = G i) → bsl fl F b n = bsl fl G b n := by
  intro n
  induction n with
  | zero => intro _; rfl
  | succ n ih =>
    intro h
    rw [bsl_s, bsl_s, h n (by omega), ih (fun i hi => h i (by omega))]
theorem bF_eqv {k0 k1 R : Int} : ∀ (m : Nat) (fl : Int) (w w' : Int → Int), eqv k0 k1 w w' → bF k0 k1 R m fl w = bF k0 k1 R m fl w' := by
  intro m
  induction m with
  | zero =>
    intro fl w w' h
    obtain ⟨eT, eS⟩ := tnw_eqv h
    show bc _ = bc _
    rw [eS]
  | succ m ih =>
    intro fl w w' h
    obtain ⟨eT, eS⟩ := tnw_eqv h
    rw [bF_s, bF_s, eS, ih (nfl fl) w w' h]
    congr 1
    refine bsl_cong 8 (fun i hi => ?_)
    unfold bFF
    rw [← eT]
    by_cases hc : iAnd (iShr (tnw k0 k1 w) (i : Int)) 1 = 0
    · rw [if_pos hc, if_pos hc]
    · rw [if_neg hc, if_neg hc]
      have ht := Classical.byContradiction (fun z => hc ((trn_iff (by omega) (by omega)).mpr z))
      exact congrArg some (ih _ _ _ (turn_eqv h (by omega) (by omega) ht.2))
theorem idl_ex {k0 k1 : Int} {w : Int → Int} : 0 < 2 * bc (shw k0 k1 w) ↔ ∃ i : Nat, i < 8 ∧ idl k0 k1 w i := by
  rw [← idn, sm_ex (i01_r _ _) 8]
  have e : ∀ i : Nat, i01 (hA k0 w) (hB k1 w) i = 1 ↔ idl k0 k1 w i := fun i => by
    unfold i01 idl cnb
    constructor
    · intro h
      refine Classical.byContradiction (fun z => ?_)
      rw [if_neg z] at h
      omega
    · intro h
      exact if_pos h
  constructor
  · intro ⟨i, hi, h⟩
    exact ⟨i, hi, (e i).mp h⟩
  · intro ⟨i, hi, h⟩
    exact ⟨i, hi, (e i).mpr h⟩
theorem bF_0 {k0 k1 R : Int} {w : Int → Int} (h : ∀ i : Nat, i < 8 → ¬ cnb k0 k1 w i) : ∀ (m : Nat) (fl : Int), bF k0 k1 R m fl w = 0 := by
  have b0 : ¬ 0 < 2 * bc (shw k0 k1 w) := fun z => by
    obtain ⟨i, hi, hx⟩ := idl_ex.mp z
    exact h i hi hx.1
  have bb := bc_shw k0 k1 w
  intro m fl
  cases m with
  | zero =>
    show bc _ = 0
    clear h
    omega
  | succ m =>
    rw [bF_s, if_pos (show 2 * bc (shw k0 k1 w) ≤ 0 by clear h; omega), bsl_none 8 (fun i hi => if_pos ((trn_iff (by omega) (by omega)).mpr (fun z => h i hi z.1)))]
    rfl
theorem gB_bF {k0 k1 R : Int} : ∀ (m : Nat) (fl : Int) (w : Int → Int), w8 w → gB k0 k1 R m fl w = bF k0 k1 R m fl w := by
  intro m
  induction m with
  | zero => intro fl w _; rfl
  | succ m ih =>
    intro fl w hw
    have nn : ∀ w, 0 ≤ bF k0 k1 R m (nfl fl) w := fun w => (bF_r k0 k1 R m (nfl fl) w).1
    have h1 := isB_bsl (fl := fl) (b := -9) (F := gBF (fun a => gB k0 k1 R m (nfl fl) (utw k0 k1 R w a)) k0 k1 w) (Or.inl rfl) (fun i v hv => by
      by_cases hc : cnb k0 k1 w i
      · rw [gBF_y hc, ih _ _ (w8_utw hw)] at hv
        injection hv with hv
        rw [← hv]; exact nn _
      · rw [gBF_n hc] at hv; cases hv) 8
    have h2 := isB_bsl (fl := fl) (b := if 2 * bc (shw k0 k1 w) ≤ 0 then -9 else bF k0 k1 R m (nfl fl) w) (F := bFF (fun a => bF k0 k1 R m (nfl fl) (utw k0 k1 R w a)) k0 k1 w) (by
      by_cases hc : 2 * bc (shw k0 k1 w) ≤ 0
      · rw [if_pos hc]; exact Or.inl rfl
      · rw [if_neg hc]; exact Or.inr (nn w)) (fun i v hv => by
      unfold bFF at hv
      by_cases hc : iAnd (iShr (tnw k0 k1 w) i) 1 = 0
      · rw [if_pos hc] at hv; cases hv
      · rw [if_neg hc] at hv
        injection hv with hv
        rw [← hv]; exact nn _) 8
    have hset : bsl fl (gBF (fun a => gB k0 k1 R m (nfl fl) (utw k0 k1 R w a)) k0 k1 w) (-9) 8 = bsl fl (bFF (fun a => bF k0 k1 R m (nfl fl) (utw k0 k1 R w a)) k0 k1 w) (if 2 * bc (shw k0 k1 w) ≤ 0 then -9 else bF k0 k1 R m (nfl fl) w) 8 := by
      refine isB_uniq (fun x => ?_) h1 h2
      constructor
      · intro h
        rcases h with ⟨_, h⟩ | ⟨i, hi, hx⟩
        · omega
        · by_cases hc : cnb k0 k1 w i
          · rw [gBF_y hc, ih _ _ (w8_utw hw)] at hx
            injection hx with hx
            by_cases ht : trn k0 k1 w i
            · exact Or.inr ⟨i, hi, by unfold bFF; rw [if_neg (fun z => (trn_iff (by omega) (by omega)).mp z ht)]; exact congrArg some hx⟩
            · have hid : ¬ iAnd (iShr (if (i : Int) / 4 = 0 then hB k1 w else hA k0 w) ((i : Int) % 4)) 1 = 0 := fun z => ht ⟨hc, z⟩
              have hpos := idl_ex.mpr ⟨i, hi, hc, hid⟩
              refine Or.inl ?_
              rw [if_neg (show ¬ 2 * bc (shw k0 k1 w) ≤ 0 by omega)]
              refine ⟨?_, nn w⟩
              rw [← hx]
              exact bF_eqv m _ _ _ (idle_eqv hw (by omega) (by omega) hid)
          · rw [gBF_n hc] at hx; cases hx
      · intro h
        rcases h with ⟨h, h0⟩ | ⟨i, hi, hx⟩
        · by_cases hc : 2 * bc (shw k0 k1 w) ≤ 0
          · rw [if_pos hc] at h0; omega
          · rw [if_neg hc] at h
            obtain ⟨i, hi, hx, hid⟩ := idl_ex.mp (show 0 < 2 * bc (shw k0 k1 w) by omega)
            refine Or.inr ⟨i, hi, ?_⟩
            rw [gBF_y hx, ih _ _ (w8_utw hw), h, bF_eqv m _ _ _ (idle_eqv hw (by omega) (by omega) hid)]
        · unfold bFF at hx
          by_cases hc : iAnd (iShr (tnw k0 k1 w) (i : Int)) 1 = 0
          · rw [if_pos hc] at hx; cases hx
          · rw [if_neg hc] at hx
            have ht := Classical.byContradiction (fun z => hc ((trn_iff (k0 := k0) (k1 := k1) (w := w) (a := (i : Int)) (by omega) (by omega)).mpr z))
            refine Or.inr ⟨i, hi, ?_⟩
            rw [gBF_y ht.1, ih _ _ (w8_utw hw)]
            exact hx
    show fixb _ _ = _
    rw [bF_s, ← hset, ih _ _ hw]
    unfold fixb
    by_cases h9 : bsl fl (gBF (fun a => gB k0 k1 R m (nfl fl) (utw k0 k1 R w a)) k0 k1 w) (-9) 8 = -9
    · rw [if_pos h9, if_pos h9]
      refine bF_0 (fun i hi hc => ?_) m _
      rcases h1 with ⟨_, h1⟩ | ⟨h1, _⟩
      · exact h1 _ (Or.inr ⟨i, hi, gBF_y hc⟩)
      · rw [h9] at h1
        rcases h1 with ⟨_, h1⟩ | ⟨i, hi, h1⟩
        · omega
        · by_cases hc : cnb k0 k1 w i
          · rw [gBF_y hc, ih _ _ (w8_utw hw)] at h1
            injection h1 with h1
            have := nn (utw k0 k1 R w i)
            omega
          · rw [gBF_n hc] at h1; cases h1
    · rw [if_neg h9, if_neg h9]
