/-! what is heard and what not: branch by branch, and all at once -/
theorem sm_dbl (F : Int → Int) : ∀ n : Nat, sm F (2 * n) = sm (fun i => F (2 * i) + F (2 * i + 1)) n := by
  intro n
  induction n with
  | zero => rfl
  | succ n ih =>
    rw [show 2 * (n + 1) = 2 * n + 1 + 1 by omega, sm_s, sm_s, ih, sm_s]
    rw [show ((2 * n : Nat) : Int) = 2 * (n : Int) by omega, show ((2 * n + 1 : Nat) : Int) = 2 * (n : Int) + 1 by omega]
    omega
theorem sm_lin (F G : Int → Int) (a b : Int) : ∀ n : Nat, sm (fun i => a * F i + b * G i) n = a * sm F n + b * sm G n := by
  intro n
  induction n with
  | zero =>
    show (0 : Int) = a * 0 + b * 0
    rw [Int.mul_zero, Int.mul_zero]
    rfl
  | succ n ih =>
    rw [sm_s, sm_s, sm_s, ih, Int.mul_add, Int.mul_add]
    omega
theorem sm_add (F G : Int → Int) : ∀ n : Nat, sm (fun i => F i + G i) n = sm F n + sm G n := by
  intro n
  induction n with
  | zero => rfl
  | succ n ih =>
    rw [sm_s, sm_s, sm_s, ih]
    omega
theorem sm_sc (F : Int → Int) (a : Int) : ∀ n : Nat, sm (fun i => a * F i) n = a * sm F n := by
  intro n
  induction n with
  | zero =>
    show (0 : Int) = a * 0
    rw [Int.mul_zero]
  | succ n ih =>
    rw [sm_s, sm_s, ih, Int.mul_add]
theorem sm_z (F : Int → Int) : ∀ n : Nat, (∀ i : Nat, i < n → F i = 0) → sm F n = 0 := by
  intro n
  induction n with
  | zero => intro _; rfl
  | succ n ih =>
    intro h
    rw [sm_s, ih (fun i hi => h i (by omega)), h n (by omega)]
    rfl
theorem sm_dlt (g : Int → Int) (x : Int) : ∀ n : Nat, 0 ≤ x → x < n → sm (fun a => g a * (if a = x then 1 else 0)) n = g x := by
  intro n
  induction n with
  | zero => intro h0 h1; omega
  | succ n ih =>
    intro h0 h1
    rw [sm_s]
    by_cases h : (n : Int) = x
    · rw [if_pos h, Int.mul_one, sm_z _ n (fun i hi => by rw [if_neg (by omega), Int.mul_zero]), h, Int.zero_add]
    · rw [if_neg h, Int.mul_zero, Int.add_zero]
      exact ih h0 (by omega)
/-- who hears, if it is heard and can be said -/
noncomputable def nxt (k0 k1 R : Int) (w : Int → Int) (a : Int) (h : Prop) : Int → Int := @ite _ (h ∧ cnb k0 k1 w a) (Classical.propDecidable _) (utw k0 k1 R w a) w
theorem nxt_y {k0 k1 R a : Int} {w : Int → Int} {h : Prop} (z : h ∧ cnb k0 k1 w a) : nxt k0 k1 R w a h = utw k0 k1 R w a := @if_pos _ (Classical.propDecidable _) z _ _ _
theorem nxt_n {k0 k1 R a : Int} {w : Int → Int} {h : Prop} (z : ¬ (h ∧ cnb k0 k1 w a)) : nxt k0 k1 R w a h = w := @if_neg _ (Classical.propDecidable _) z _ _ _
/-- what both hold behind a talk of which some is not heard -/
noncomputable def rs (k0 k1 R : Int) (sc : Int → Int) : Nat → Int → (Int → Int) → Nat → Int
  | 0, _, w, _ => shw k0 k1 w
  | m + 1, p, w, l => rs k0 k1 R sc m (p + 1) (nxt k0 k1 R w (sc p) (l % 2 = 0)) (l / 2)
def hwt (un : Int) : Nat → Nat → Int
  | 0, _ => 1
  | m + 1, l => (if l % 2 = 0 then 12 - un else un) * hwt un m (l / 2)
noncomputable def dG (k0 k1 R un : Int) (sc : Int → Int) (f : Int → Int) : Nat → Int → (Int → Int) → Int
  | 0, _, w => f (shw k0 k1 w)
  | m + 1, p, w => @ite _ (cnb k0 k1 w (sc p)) (Classical.propDecidable _) (un * dG k0 k1 R un sc f m (p + 1) w + (12 - un) * dG k0 k1 R un sc f m (p + 1) (utw k0 k1 R w (sc p))) (12 * dG k0 k1 R un sc f m (p + 1) w)
section DG
variable {k0 k1 R un : Int} {sc f g : Int → Int}
theorem dG_y {m : Nat} {p : Int} {w : Int → Int} (h : cnb k0 k1 w (sc p)) : dG k0 k1 R un sc f (m + 1) p w = un * dG k0 k1 R un sc f m (p + 1) w + (12 - un) * dG k0 k1 R un sc f m (p + 1) (utw k0 k1 R w (sc p)) := @if_pos _ (Classical.propDecidable _) h _ _ _
theorem dG_n {m : Nat} {p : Int} {w : Int → Int} (h : ¬ cnb k0 k1 w (sc p)) : dG k0 k1 R un sc f (m + 1) p w = 12 * dG k0 k1 R un sc f m (p + 1) w := @if_neg _ (Classical.propDecidable _) h _ _ _
theorem mul12 (un x : Int) : un * x + (12 - un) * x = 12 * x := by
  rw [← Int.add_mul, show un + (12 - un) = 12 by omega]
/-- the reference's sum -/
theorem sm_dG : ∀ (m : Nat) (p : Int) (w : Int → Int), sm (fun i => hwt un m i.toNat * f (rs k0 k1 R sc m p w i.toNat)) (2 ^ m) = dG k0 k1 R un sc f m p w := by
  intro m
  induction m with
  | zero =>
    intro p w
    show (0 : Int) + 1 * f (shw k0 k1 w) = f (shw k0 k1 w)
    omega
  | succ m ih =>
    intro p w
    rw [Nat.pow_succ, Nat.mul_comm, sm_dbl]
    have e : ∀ k : Nat, k < 2 ^ m → (12 - un) * (hwt un m (k : Int).toNat * f (rs k0 k1 R sc m (p + 1) (nxt k0 k1 R w (sc p) True) (k : Int).toNat)) + un * (hwt un m (k : Int).toNat * f (rs k0 k1 R sc m (p + 1) w (k : Int).toNat)) = hwt un (m + 1) (2 * (k : Int)).toNat * f (rs k0 k1 R sc (m + 1) p w (2 * (k : Int)).toNat) + hwt un (m + 1) (2 * (k : Int) + 1).toNat * f (rs k0 k1 R sc (m + 1) p w (2 * (k : Int) + 1).toNat) := by
      intro k hk
      have a0 : (2 * (k : Int)).toNat % 2 = 0 := by omega
      have a1 : (2 * (k : Int)).toNat / 2 = k := by omega
      have b0 : ¬ (2 * (k : Int) + 1).toNat % 2 = 0 := by omega
      have b1 : (2 * (k : Int) + 1).toNat / 2 = k := by omega
      have r1 : rs k0 k1 R sc (m + 1) p w (2 * (k : Int)).toNat = rs k0 k1 R sc m (p + 1) (nxt k0 k1 R w (sc p) True) k := by
        show rs k0 k1 R sc m (p + 1) (nxt k0 k1 R w (sc p) ((2 * (k : Int)).toNat % 2 = 0)) ((2 * (k : Int)).toNat / 2) = _
        rw [a1, show ((2 * (k : Int)).toNat % 2 = 0) = True from propext ⟨fun _ => trivial, fun _ => a0⟩]
      have r2 : rs k0 k1 R sc (m + 1) p w (2 * (k : Int) + 1).toNat = rs k0 k1 R sc m (p + 1) w k := by
        show rs k0 k1 R sc m (p + 1) (nxt k0 k1 R w (sc p) ((2 * (k : Int) + 1).toNat % 2 = 0)) ((2 * (k : Int) + 1).toNat / 2) = _
        rw [b1, nxt_n (fun z => b0 z.1)]
      have h1 : hwt un (m + 1) (2 * (k : Int)).toNat = (12 - un) * hwt un m k := by
        show (if (2 * (k : Int)).toNat % 2 = 0 then 12 - un else un) * hwt un m ((2 * (k : Int)).toNat / 2) = _
        rw [if_pos a0, a1]
      have h2 : hwt un (m + 1) (2 * (k : Int) + 1).toNat = un * hwt un m k := by
        show (if (2 * (k : Int) + 1).toNat % 2 = 0 then 12 - un else un) * hwt un m ((2 * (k : Int) + 1).toNat / 2) = _
        rw [if_neg b0, b1]
      rw [r1, r2, h1, h2, Int.toNat_natCast, Int.mul_assoc, Int.mul_assoc]
    refine (sm_cong (f := fun i : Int => hwt un (m + 1) (2 * i).toNat * f (rs k0 k1 R sc (m + 1) p w (2 * i).toNat) + hwt un (m + 1) (2 * i + 1).toNat * f (rs k0 k1 R sc (m + 1) p w (2 * i + 1).toNat)) (f' := fun i : Int => (12 - un) * (hwt un m i.toNat * f (rs k0 k1 R sc m (p + 1) (nxt k0 k1 R w (sc p) True) i.toNat)) + un * (hwt un m i.toNat * f (rs k0 k1 R sc m (p + 1) w i.toNat))) e).symm.trans ?_
    rw [sm_lin, ih, ih]
    by_cases hc : cnb k0 k1 w (sc p)
    · rw [nxt_y ⟨trivial, hc⟩, dG_y hc]
      omega
    · rw [nxt_n (fun z => hc z.2), dG_n hc, Int.add_comm]
      exact mul12 un _
/-- the sum of the class -/
theorem cnd_iff {w : Int → Int} {a : Int} (a0 : 0 ≤ a) (a8 : a < 8) : (0 ≤ a ∧ a < 8 ∧ ¬ iAnd (iShr (if a < 4 then hA k0 w else hB k1 w) (a % 4)) 1 = 0) ↔ cnb k0 k1 w a := cnw_iff a0 a8
theorem dF_dG : ∀ (m : Nat) (p : Int) (w : Int → Int), (∀ j, p ≤ j → j < p + m → 0 ≤ sc j ∧ sc j < 8) → sm (fun a => f a * dF k0 k1 R un sc m p w a) 16 = dG k0 k1 R un sc f m p w := by
  intro m
  induction m with
  | zero =>
    intro p w _
    have hs := shw_r k0 k1 w
    show sm (fun a => f a * (if a = iAnd (shw k0 k1 w) 15 then 1 else 0)) 16 = f (shw k0 k1 w)
    rw [iAnd_15 hs.1 hs.2]
    exact sm_dlt f _ 16 hs.1 (by omega)
  | succ m ih =>
    intro p w hs
    have hp := hs p (by omega) (by omega)
    have i1 := ih (p + 1) w (fun j j0 j1 => hs j (by omega) (by omega))
    have i2 := ih (p + 1) (utw k0 k1 R w (sc p)) (fun j j0 j1 => hs j (by omega) (by omega))
    have hci := cnd_iff (k0 := k0) (k1 := k1) (w := w) hp.1 hp.2
    by_cases hc : cnb k0 k1 w (sc p)
    · rw [dG_y hc, ← i1, ← i2, ← sm_lin]
      refine sm_cong (fun k hk => ?_)
      show f k * (if _ then _ else _) = _
      rw [if_pos (hci.mpr hc), Int.mul_add, Int.mul_left_comm, Int.mul_left_comm (f k) (12 - un)]
    · rw [dG_n hc, ← i1, ← sm_sc]
      refine sm_cong (fun k hk => ?_)
      show f k * (if _ then _ else _) = _
      rw [if_neg (fun z => hc (hci.mp z)), Int.mul_left_comm]
theorem dG_cong (e : ∀ x, 0 ≤ x → x < 16 → f x = g x) : ∀ (m : Nat) (p : Int) (w : Int → Int), dG k0 k1 R un sc f m p w = dG k0 k1 R un sc g m p w := by
  intro m
  induction m with
  | zero => intro p w; have hs := shw_r k0 k1 w; exact e _ hs.1 hs.2
  | succ m ih =>
    intro p w
    by_cases hc : cnb k0 k1 w (sc p)
    · rw [dG_y hc, dG_y hc, ih, ih]
    · rw [dG_n hc, dG_n hc, ih]
theorem dG_1 : ∀ (m : Nat) (p : Int) (w : Int → Int), dG k0 k1 R un sc (fun _ => 1) m p w = ((12 ^ m : Nat) : Int) := by
  intro m
  induction m with
  | zero => intro p w; rfl
  | succ m ih =>
    intro p w
    have e : ((12 ^ (m + 1) : Nat) : Int) = 12 * ((12 ^ m : Nat) : Int) := by rw [Nat.pow_succ]; omega
    by_cases hc : cnb k0 k1 w (sc p)
    · rw [dG_y hc, ih, ih, e, mul12]
    · rw [dG_n hc, ih, e]
theorem dG_r {C : Int} (u0 : 0 ≤ un) (u1 : un ≤ 12) (hf : ∀ x, 0 ≤ x → x < 16 → 0 ≤ f x ∧ f x ≤ C) : ∀ (m : Nat) (p : Int) (w : Int → Int), 0 ≤ dG k0 k1 R un sc f m p w ∧ dG k0 k1 R un sc f m p w ≤ ((12 ^ m : Nat) : Int) * C := by
  intro m
  induction m with
  | zero =>
    intro p w
    have hs := shw_r k0 k1 w
    have := hf _ hs.1 hs.2
    show 0 ≤ f (shw k0 k1 w) ∧ f (shw k0 k1 w) ≤ ((12 ^ 0 : Nat) : Int) * C
    rw [show ((12 ^ 0 : Nat) : Int) = 1 from rfl, Int.one_mul]
    exact this
  | succ m ih =>
    intro p w
    have e : ((12 ^ (m + 1) : Nat) : Int) * C = 12 * (((12 ^ m : Nat) : Int) * C) := by rw [← Int.mul_assoc, show ((12 ^ (m + 1) : Nat) : Int) = 12 * ((12 ^ m : Nat) : Int) by rw [Nat.pow_succ]; omega]
    rw [e]
    have a := ih (p + 1) w
    by_cases hc : cnb k0 k1 w (sc p)
    · have b := ih (p + 1) (utw k0 k1 R w (sc p))
      rw [dG_y hc]
      have h1 := Int.mul_le_mul_of_nonneg_left a.2 u0
      have h2 := Int.mul_le_mul_of_nonneg_left b.2 (show 0 ≤ 12 - un by omega)
      have h3 := Int.mul_nonneg u0 a.1
      have h4 := Int.mul_nonneg (show 0 ≤ 12 - un by omega) b.1
      have h5 := mul12 un (((12 ^ m : Nat) : Int) * C)
      omega
    · rw [dG_n hc]
      omega
theorem hwt_r (u0 : 0 ≤ un) (u1 : un ≤ 12) : ∀ (m l : Nat), 0 ≤ hwt un m l ∧ hwt un m l ≤ ((12 ^ m : Nat) : Int) := by
  intro m
  induction m with
  | zero => intro l; exact ⟨(by decide : (0 : Int) ≤ 1), (by decide : (1 : Int) ≤ 1)⟩
  | succ m ih =>
    intro l
    have e : ((12 ^ (m + 1) : Nat) : Int) = 12 * ((12 ^ m : Nat) : Int) := by rw [Nat.pow_succ]; omega
    have a := ih (l / 2)
    have key : ∀ c : Int, 0 ≤ c → c ≤ 12 → 0 ≤ c * hwt un m (l / 2) ∧ c * hwt un m (l / 2) ≤ 12 * ((12 ^ m : Nat) : Int) := fun c c0 c1 => by
      have h1 := Int.mul_nonneg c0 a.1
      have h2 := Int.mul_le_mul_of_nonneg_right c1 a.1
      omega
    rw [e]
    show 0 ≤ (if l % 2 = 0 then 12 - un else un) * hwt un m (l / 2) ∧ (if l % 2 = 0 then 12 - un else un) * hwt un m (l / 2) ≤ _
    by_cases hl : l % 2 = 0
    · rw [if_pos hl]; exact key _ (by omega) (by omega)
    · rw [if_neg hl]; exact key _ u0 u1
end DG
theorem lbit0 : ∀ l : Fin 64, ∀ k : Fin 6, (iAnd (iShr ((l : Nat) : Int) ((k : Nat) : Int)) 1 = 1) ↔ ¬ ((l : Nat) / 2 ^ (k : Nat)) % 2 = 0 := by decide +kernel
theorem lbit {l k : Int} (l0 : 0 ≤ l) (l6 : l < 64) (k0 : 0 ≤ k) (k6 : k < 6) : (iAnd (iShr l k) 1 = 1) ↔ ¬ (l.toNat / 2 ^ k.toNat) % 2 = 0 := by
  have := lbit0 ⟨l.toNat, by omega⟩ ⟨k.toNat, by omega⟩
  have e1 : ((l.toNat : Nat) : Int) = l := by omega
  have e2 : ((k.toNat : Nat) : Int) = k := by omega
  rw [show (((⟨l.toNat, by omega⟩ : Fin 64) : Nat) : Int) = l from e1, show (((⟨k.toNat, by omega⟩ : Fin 6) : Nat) : Int) = k from e2] at this
  exact this
theorem half_up {l : Nat} {k : Int} (k0 : 0 ≤ k) : l / 2 ^ k.toNat / 2 = l / 2 ^ (k + 1).toNat := by
  rw [Nat.div_div_eq_div_mul, ← Nat.pow_succ, show (k + 1).toNat = k.toNat.succ by omega]
/-- a talk of few sayings -/
def bbk (s : m_St) (r : Int) : Prop := uok s ∧ 0 ≤ s 78 r ∧ s 78 r ≤ 6 ∧ asM s r
noncomputable def bbW (s : m_St) (r l : Int) : Int := rs (s 83 (8 + 5 * (s 83 5 - 1))) (s 83 (8 + 5 * (s 83 6 - 1))) (s 38 5) (fun j => s 79 (40 * r + j)) (s 78 r).toNat 0 (W0 (s 83) (s 83 5 - 1) (s 83 6 - 1)) l.toNat
def frB (s s' : m_St) : Prop := ∀ x j, ¬ x = 88 → ¬ x = 89 → s' x j = s x j
def qBb (s : m_St) (r l v : Int) (s' : m_St) : Prop := v = bbW s r l ∧ frB s s'
theorem rs_r {k0 k1 R : Int} {sc : Int → Int} : ∀ (m : Nat) (p : Int) (w : Int → Int) (l : Nat), 0 ≤ rs k0 k1 R sc m p w l ∧ rs k0 k1 R sc m p w l < 16 := by
  intro m
  induction m with
  | zero => intro p w l; exact shw_r k0 k1 w
  | succ m ih => intro p w l; exact ih _ _ _
theorem bbW_r (s : m_St) (r l : Int) : 0 ≤ bbW s r l ∧ bbW s r l < 16 := rs_r _ _ _ _
theorem inR_bbW (s : m_St) (r l : Int) : inR (bbW s r l) := by have := bbW_r s r l; omega
section SPBB
variable {X : List Int32} {d : Nat} {s : m_St} {P : Option Value → m_St → Prop} {r l a b : Int}
theorem sp_bothBy (h : bbk s r) (h0 : 0 ≤ r) (h6 : r < 6) (l0 : 0 ≤ l) (l6 : l < 64) (kk : ∀ v s', qBb s r l v s' → P (some (vI v)) s') : Cl X (d + 4) 243 [vR 77, vI r, vI l] s P := by
  obtain ⟨huk, n0, n6, has⟩ := h
  have u := huk.u
  have h06 := huk.1.1.2.1
  have loop : ∀ (m : Nat) (k : Int) (s1 : m_St) (z4 : Option Value), 0 ≤ k → k + m = s 78 r → opk s1 (s 83 (8 + 5 * (s 83 5 - 1))) (s 83 (8 + 5 * (s 83 6 - 1))) (s 38 5) → w8 (wt s1 k) → frB s s1 → rs (s 83 (8 + 5 * (s 83 5 - 1))) (s 83 (8 + 5 * (s 83 6 - 1))) (s 38 5) (fun j => s 79 (40 * r + j)) m k (wt s1 k) (l.toNat / 2 ^ k.toNat) = bbW s r l → Rn X (d + 4) 243 6 [some (vR 77), some (vI r), some (vI l), some (vI k), z4] [] s1 P := by
    intro m
    induction m with
    | zero =>
      intro k s1 z4 k0 km ho hw hfr he
      have y8 : s1 78 r = s 78 r := hfr 78 r (by decide) (by decide)
      have hoS : opS s1 := by unfold opS; rw [ho.1, ho.2.1, ho.2.2.2.2.2.2.1]; exact ho
      have ek : s1 78 r = k := by omega
      have ev : iAnd (hW s1 (s1 78 r) 0) (hW s1 (s1 78 r) 1) = bbW s r l := by
        rw [← he, ek]
        have e0 : hW s1 k 0 = hA (s1 88 0) (wt s1 k) := if_pos rfl
        have e1 : hW s1 k 1 = hB (s1 88 1) (wt s1 k) := if_neg (by decide)
        rw [e0, e1, ho.1, ho.2.1]
        rfl
      have hfin := kk _ s1 ⟨rfl, hfr⟩
      rw [← ev] at hfin
      clear kk ev he
      apply t_X6_bothBy_6 h0 h6 k0 <;> intros
      all_goals first | exact hfin | exact hoS | (rw [ek]; exact hw) | omega
    | succ m ih =>
      intro k s1 z4 k0 km ho hw hfr he
      have y8 : s1 78 r = s 78 r := hfr 78 r (by decide) (by decide)
      have y9 : s1 79 (40 * r + k) = s 79 (40 * r + k) := hfr 79 _ (by decide) (by decide)
      have sr := has k k0 (by omega)
      have hoS : opS s1 := by unfold opS; rw [ho.1, ho.2.1, ho.2.2.2.2.2.2.1]; exact ho
      have hlb := lbit (l := l) (k := k) l0 l6 k0 (by omega)
      have eW : hW s1 k (s1 79 (40 * r + k) / 4) = if s 79 (40 * r + k) / 4 = 0 then hA (s 83 (8 + 5 * (s 83 5 - 1))) (wt s1 k) else hB (s 83 (8 + 5 * (s 83 6 - 1))) (wt s1 k) := by
        unfold hW
        rw [ho.1, ho.2.1, y9]
      have eU : uW s1 k (s1 79 (40 * r + k)) = utw (s 83 (8 + 5 * (s 83 5 - 1))) (s 83 (8 + 5 * (s 83 6 - 1))) (s 38 5) (wt s1 k) (s 79 (40 * r + k)) := by
        unfold uW
        rw [ho.1, ho.2.1, ho.2.2.2.2.2.2.1, y9]
      have step : ∀ (s5 : m_St) (z : Option Value), qGo s1 k (nxt (s 83 (8 + 5 * (s 83 5 - 1))) (s 83 (8 + 5 * (s 83 6 - 1))) (s 38 5) (wt s1 k) (s 79 (40 * r + k)) (l.toNat / 2 ^ k.toNat % 2 = 0)) s5 → Rn X (d + 4) 243 6 [some (vR 77), some (vI r), some (vI l), some (vI (k + 1)), z] [] s5 P := by
        intro s5 z hq
        refine ih (k + 1) s5 z (by omega) (by omega) (opk_kep (q := 0) ho (fun x j c1 _ => hq.1 x j (by omega))) ?_ (fun x j c1 c2 => by rw [hq.1 x j (by omega), hfr x j c1 c2]) ?_
        · rw [hq.2]
          unfold nxt
          split
          · exact w8_utw hw
          · exact hw
        · rw [← he, hq.2, ← half_up k0]
          rfl
      have st0 : ∀ (s5 : m_St) (z : Option Value), (iAnd (iShr l k) 1 = 1 ∨ ¬ cnb (s 83 (8 + 5 * (s 83 5 - 1))) (s 83 (8 + 5 * (s 83 6 - 1))) (wt s1 k) (s 79 (40 * r + k))) → qGo s1 k (if (0 : Int) = 0 then wt s1 k else uW s1 k (s1 79 (40 * r + k))) s5 → Rn X (d + 4) 243 6 [some (vR 77), some (vI r), some (vI l), some (vI (k + 1)), z] [] s5 P := by
        intro s5 z hc hq
        rw [if_pos rfl] at hq
        refine step s5 z ?_
        rw [nxt_n (fun zz => by
          rcases hc with hc | hc
          · exact hlb.mp hc zz.1
          · exact hc zz.2)]
        exact hq
      have st1 : ∀ (s5 : m_St) (z : Option Value), ¬ iAnd (iShr l k) 1 = 1 → cnb (s 83 (8 + 5 * (s 83 5 - 1))) (s 83 (8 + 5 * (s 83 6 - 1))) (wt s1 k) (s 79 (40 * r + k)) → qGo s1 k (uW s1 k (s1 79 (40 * r + k))) s5 → Rn X (d + 4) 243 6 [some (vR 77), some (vI r), some (vI l), some (vI (k + 1)), z] [] s5 P := by
        intro s5 z hl hc hq
        refine step s5 z ?_
        rw [nxt_y ⟨Classical.byContradiction (fun zz => hl (hlb.mpr zz)), hc⟩, ← eU]
        exact hq
      have ecn : (iAnd (iShr (hW s1 k (s1 79 (40 * r + k) / 4)) (s1 79 (40 * r + k) % 4)) 1 = 1) ↔ cnb (s 83 (8 + 5 * (s 83 5 - 1))) (s 83 (8 + 5 * (s 83 6 - 1))) (wt s1 k) (s 79 (40 * r + k)) := by
        rw [eW, y9]
        exact Iff.rfl
      clear step kk he ih eW eU hlb
      apply t_X6_bothBy_6 h0 h6 k0 <;> intros
      all_goals first | exact hoS | exact hw | (next hl s5 hq => exact st0 _ _ (Or.inl hl) hq) | (next hl hc s5 hq => exact st0 _ _ (Or.inr (fun z => hc (ecn.mpr z))) hq) | (next hl hc s5 hq => exact st1 _ _ hl (ecn.mp hc) hq) | (clear st0 st1 ecn; omega)
  have opn : ∀ s9, qOp s (s 83 5 - 1) (s 83 6 - 1) s9 → Rn X (d + 4) 243 6 [some (vR 77), some (vI r), some (vI l), some (vI 0), none] [] s9 P := by
    intro s9 hq
    obtain ⟨ho, hw9, hw8⟩ := opk_of huk.1 u.1 u.2.1 u.2.2.1 u.2.2.2 hq rfl rfl
    refine loop (s 78 r).toNat 0 s9 none (by decide) (by omega) ho hw8 (fun x j c1 c2 => hq.1 x j c1 c2) ?_
    rw [hw9, show l.toNat / 2 ^ (0 : Int).toNat = l.toNat from Nat.div_one _]
    rfl
  clear loop
  apply t_X6_bothBy h0 h6 <;> intros
  all_goals first | (exact opn _ (by assumption)) | omega
theorem sp_tellsParts (a0 : 0 ≤ a) (b0 : 0 < b) (ja : a < 1000000000000) (jb : b < 1000000000000) (kk : P (some (vI 1)) (m_upd (m_upd s 77 12 (a / gd a b)) 77 13 (b / gd a b))) : Cl X d 244 [vR 77, vJ a, vJ b] s P := by
  have loop : ∀ (n : Nat) (x y : Int) (z9 : Option Value), y ≤ n → 0 ≤ x → x < 1000000000000 → 0 ≤ y → y < 1000000000000 → 0 < gd x y → gd x y = gd a b → Rn X d 244 6 [some (vR 77), some (vJ a), none, some (vJ b), none, some (vJ x), none, some (vJ y), none, z9, none] [] s P := by
    intro n
    induction n with
    | zero =>
      intro x y z9 hy x0 x1 y0 y1 gp ge
      have hy0 : y = 0 := by omega
      subst hy0
      have hc := cmpJ_0 (b := 0) (by omega)
      rw [gd_0 x0] at gp ge
      rw [← ge] at kk
      apply t_X6_tellsParts_6 x0 y0 <;> intros
      all_goals first | exact kk | exact absurd (hc.mpr rfl) (by assumption) | omega
    | succ n ih =>
      intro x y z9 hy x0 x1 y0 y1 gp ge
      have hc := cmpJ_0 (b := y) (by omega)
      by_cases hy0 : y = 0
      · subst hy0
        rw [gd_0 x0] at gp ge
        rw [← ge] at kk
        apply t_X6_tellsParts_6 x0 y0 <;> intros
        all_goals first | exact kk | exact absurd (hc.mpr rfl) (by assumption) | omega
      · have hyp : 0 < y := by omega
        have m0 := Int.emod_nonneg x hy0
        have m1 := Int.emod_lt_of_pos x hyp
        have hgm := gd_mod x0 hyp
        have hn := ih y (x % y) (some (vJ (x % y))) (by omega) y0 y1 m0 (by omega) (by rw [hgm]; exact gp) (by rw [hgm]; exact ge)
        clear ih kk
        apply t_X6_tellsParts_6 x0 y0 <;> intros
        all_goals first | exact hn | exact absurd (hc.mp (by assumption)) hy0 | (clear hn hgm m0 m1; omega)
  have gp : 0 < gd a b := by
    unfold gd
    have : 0 < Nat.gcd a.toNat b.toNat := Nat.gcd_pos_of_pos_right _ (by omega)
    omega
  apply t_X6_tellsParts
  exact loop b.toNat a b none (by omega) a0 ja (by omega) jb gp rfl
end SPBB
