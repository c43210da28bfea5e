/-- what is counted -/
def cnv (s : m_St) (w : Int) : Int := if w = 0 then s 38 3 else if w = 1 then s 38 6 else if w = 2 then s 38 9 else if w = 3 then syd s else if w = 4 then (if s 38 7 = -1 then 0 else 10 * s 38 7 + s 38 8) else if w = 5 then bc (s 38 5) else if w = 6 then hba s (s 38 3).toNat else if w = 7 then bsh s else if w = 8 then thr1 s else if w = 9 then thr10 s else if w = 10 then thr17 s else -1
section OPP
variable {X : List Int32} {d : Nat} {s : m_St} {P : Option Value → m_St → Prop} {w : Int}
theorem cn_i (k : Int) (hk : w = k) (v : Int) (h : ∀ v', v' = cnv s k → v' = v) (p : P (some (vI (cnv s w))) s) : P (some (vI v)) s := by
  subst hk
  exact PI p (h _ rfl)
theorem count_C (h : J s) (rw_ : inR w) (kk : P (some (vI (cnv s w))) s) : Cl X (d + 12) 147 [vR 0, vI w] s P := by
  have h7 := J_7 h
  have h9 := J_9 h
  have hv := h.v
  obtain ⟨r0, r1, r2, r3, r4, r5, r6⟩ := hv.1
  obtain ⟨k1, k2, k3, k4, k5, k6, k7, k8, k9, k10, k11, k12⟩ := hv.2.1
  have ht := tr_count hv.2.2
  have hds : ∀ i, 0 ≤ i → i < s 38 9 → inR (s 41 i) := fun i i0 i1 => by
    have hd := HM_pre h.2.2.2.1.2.1 i.toNat (by omega)
    rw [show ((i.toNat : Nat) : Int) = i by omega] at hd
    have := hd.1
    have := hd.2.1
    omega
  have c0 : w = 0 → cnv s w = s 38 3 := fun e => by subst e; rfl
  have c1 : w = 1 → cnv s w = s 38 6 := fun e => by subst e; rfl
  have c2 : w = 2 → cnv s w = s 38 9 := fun e => by subst e; rfl
  have c3 : w = 3 → cnv s w = syd s := fun e => by subst e; rfl
  have c4 : w = 4 → cnv s w = if s 38 7 = -1 then 0 else 10 * s 38 7 + s 38 8 := fun e => by subst e; rfl
  have c5 : w = 5 → cnv s w = bc (s 38 5) := fun e => by subst e; rfl
  have c6 : w = 6 → cnv s w = hba s (s 38 3).toNat := fun e => by subst e; rfl
  have c7 : w = 7 → cnv s w = bsh s := fun e => by subst e; rfl
  have c8 : w = 8 → cnv s w = thr1 s := fun e => by subst e; rfl
  have c9 : w = 9 → cnv s w = thr10 s := fun e => by subst e; rfl
  have c10 : w = 10 → cnv s w = thr17 s := fun e => by subst e; rfl
  have cd : (w < 0 ∨ 10 < w) → cnv s w = -1 := fun e => by
    unfold cnv
    rw [if_neg (by omega), if_neg (by omega), if_neg (by omega), if_neg (by omega), if_neg (by omega), if_neg (by omega), if_neg (by omega), if_neg (by omega), if_neg (by omega), if_neg (by omega), if_neg (by omega)]
  have i11 : ∀ r, 0 ≤ r → r < 4 → inR (s 11 r) := fun r a b => by have := Jt_b (t := r) h a b; omega
  have i2 : ∀ r, 0 ≤ r → r < 6 → inR (s 2 r) := fun r a b => by have := Jr_b (r := r) h a b; omega
  have i18 : ∀ r, 0 ≤ r → r < 3 → inR (s 18 r) := fun r a b => by have := (h.2.2.2.2.1.2 r a b).1; have := (h.2.2.2.2.1.2 r a b).2.1; omega
  have i44 : ∀ i, 0 ≤ i → i < s 38 3 → inR (s (44 + 4 * i) 1) := fun i a b => by have := (r5 i a (by omega)).1; have := (r5 i a (by omega)).2.1; omega
  apply t_X5_count <;> intros
  all_goals first | (have hh := c0 (by assumption); rw [hh] at kk; exact kk) | (have hh := c1 (by assumption); rw [hh] at kk; exact kk) | (have hh := c2 (by assumption); rw [hh] at kk; exact kk) | (have hh := c8 (by assumption); rw [hh] at kk; first | exact kk | exact i2 _ (by assumption) (by assumption)) | (have hh := c9 (by assumption); rw [hh] at kk; first | exact kk | exact i11 _ (by assumption) (by assumption)) | (have hh := c10 (by assumption); rw [hh] at kk; first | exact kk | exact i18 _ (by assumption) (by assumption)) | skip
  all_goals clear c0 c1 c2 c8 c9 c10
  all_goals first | exact rw_ | (have hh := c3 (by assumption); rw [hh] at kk; first | exact kk | exact hds _ (by assumption) (by assumption)) | (have hh := c6 (by assumption); rw [hh] at kk; exact kk) | (have hh := c7 (by assumption); rw [hh] at kk; first | exact kk | exact i44 _ (by assumption) (by assumption)) | (have hh := c5 (by assumption); rw [hh] at kk; exact kk) | skip
  all_goals clear c3 c5 c6 c7
  all_goals first | (have hh := cd (by assumption); rw [hh] at kk; exact kk) | skip
  all_goals clear cd
  all_goals first | (have hh := c4 (by assumption); rw [hh] at kk; first | (rw [if_pos (by assumption)] at kk; exact kk) | (rw [if_neg (by assumption)] at kk; exact kk) | omega) | (clear c4; omega)
theorem bsh_M (h : J s) {f : Int → Int} (hf_ : ∀ i, 0 ≤ i → i < s 83 0 → f i = if s 83 (8 + 5 * i) = 1 ∨ s 83 (8 + 5 * i) = 4 then 1 else 0) : bsh s = sm f (s 83 0).toNat := by
  have h7 := J_7 h
  have hv := h.v
  unfold bsh
  rw [h7.2.2.2.1]
  refine sm_cong fun k hk => ?_
  have ek := (hv.1.2.2.2.2.2.2 k (by omega) (by omega)).1
  rw [hf_ k (by omega) (by omega)]
  rw [ek]
  have hma : ma (s 83 (8 + 5 * (k : Int))) = if s 83 (8 + 5 * (k : Int)) = 1 ∨ s 83 (8 + 5 * (k : Int)) = 4 then 1 else if s 83 (8 + 5 * (k : Int)) = 2 ∨ s 83 (8 + 5 * (k : Int)) = 5 then 2 else if s 83 (8 + 5 * (k : Int)) = 3 then 3 else 0 := rfl
  by_cases h1 : s 83 (8 + 5 * (k : Int)) = 1 ∨ s 83 (8 + 5 * (k : Int)) = 4
  · rw [if_pos h1] at hma
    rw [if_pos h1, if_pos (Or.inr hma)]
  · rw [if_neg h1] at hma
    rw [if_neg h1, if_neg (by omega)]
theorem sm_01 {f : Int → Int} (h : ∀ i, f i = 0 ∨ f i = 1) : ∀ n : Nat, 0 ≤ sm f n ∧ sm f n ≤ n := by
  intro n
  induction n with
  | zero => exact ⟨by show (0 : Int) ≤ 0; omega, by show (0 : Int) ≤ 0; omega⟩
  | succ n ih =>
    rw [sm_s]
    have := h n
    omega
theorem count_M (h : J s) (rw_ : inR w) (kk : P (some (vI (cnv s w))) s) : Cl X (d + 12) 250 [vR 77, vI w] s P := by
  have h7 := J_7 h
  have h9 := J_9 h
  have hv := h.v
  obtain ⟨r0, r1, r2, r3, r4, r5, r6⟩ := hv.1
  obtain ⟨k1, k2, k3, k4, k5, k6, k7, k8, k9, k10, k11, k12⟩ := hv.2.1
  have ht := tr_count hv.2.2
  have e3 : s 83 4 = syd s := h.2.2.2.1.2.1.2.2.2.1
  have ea : hba s (s 38 3).toNat = ahM s := by
    have go : ∀ n : Nat, (n : Int) ≤ s 83 0 → hba s n = an (fun i => hld (s 83) i) (if 0 < s 83 0 then 15 else 0) n := by
      intro n
      induction n with
      | zero =>
        intro _
        show (if s 38 3 = 0 then (0 : Int) else 15) = if 0 < s 83 0 then 15 else 0
        by_cases hz : s 38 3 = 0
        · rw [if_pos hz, if_neg (by omega)]
        · rw [if_neg hz, if_pos (by omega)]
      | succ n ih =>
        intro hn
        show iAnd (hba s n) (s (44 + 4 * n) 2) = iAnd _ (hld (s 83) n)
        rw [ih (by omega), hv.h (i := (n : Int)) (by omega) (by omega)]
    rw [h7.2.2.2.1, go _ (by omega)]
    rfl
  have c0 : w = 0 → cnv s w = s 83 0 := fun e => by subst e; exact h7.2.2.2.1
  have c1 : w = 1 → cnv s w = s 83 1 := fun e => by subst e; exact r1
  have c2 : w = 2 → cnv s w = s 83 3 := fun e => by subst e; exact h9.1.symm
  have c3 : w = 3 → cnv s w = s 83 4 := fun e => by subst e; exact e3.symm
  have c4 : w = 4 → cnv s w = if s 83 5 ≤ 0 then 0 else 10 * (s 83 5 - 1) + s 83 6 - 1 := fun e => by
    subst e
    show (if s 38 7 = -1 then (0 : Int) else 10 * s 38 7 + s 38 8) = _
    by_cases hz : s 38 7 = -1
    · rw [if_pos hz, if_pos (by omega)]
    · rw [if_neg hz, if_neg (by omega)]; omega
  have c5 : w = 5 → cnv s w = on16 (s 83 7) := fun e => by subst e; exact ht.1
  have c6 : w = 6 → cnv s w = ahM s := fun e => by subst e; exact ea
  have c7 : w = 7 → cnv s w = sm (fun i => if s 83 (8 + 5 * i) = 1 ∨ s 83 (8 + 5 * i) = 4 then 1 else 0) (s 83 0).toNat := fun e => by subst e; exact bsh_M h (fun _ _ _ => rfl)
  have c8 : w = 8 → cnv s w = sm (fun r => if s 78 r < 0 then 0 else 1) 6 := fun e => by
    subst e
    refine sm_cong fun k hk => ?_
    have := Jr_b (r := (k : Int)) h (by omega) (by omega)
    show (if s 2 (k : Int) = -1 then (0 : Int) else 1) = _
    by_cases hz : s 2 (k : Int) = -1
    · rw [if_pos hz, if_pos (by omega)]
    · rw [if_neg hz, if_neg (by omega)]
  have c9 : w = 9 → cnv s w = sm (fun r => if s 81 r < 0 then 0 else 1) 4 := fun e => by
    subst e
    refine sm_cong fun k hk => ?_
    have := Jt_b (t := (k : Int)) h (by omega) (by omega)
    show (if s 11 (k : Int) = -1 then (0 : Int) else 1) = _
    by_cases hz : s 11 (k : Int) = -1
    · rw [if_pos hz, if_pos (by omega)]
    · rw [if_neg hz, if_neg (by omega)]
  have hk86 : ∀ k : Int, 0 ≤ k → k < 3 → (s 18 k = -1 → s 86 k = 0) ∧ (¬ s 18 k = -1 → s 86 k = 1) := fun k a b => ⟨(h.2.2.2.2.1.2 k a b).2.2.1, fun z => ((h.2.2.2.2.1.2 k a b).2.2.2 z).1⟩
  have c10 : w = 10 → cnv s w = sm (fun r => if s 86 r = 0 then 0 else 1) 3 := fun e => by
    subst e
    refine sm_cong fun k hk => ?_
    have := hk86 (k : Int) (by omega) (by omega)
    show (if s 18 (k : Int) = -1 then (0 : Int) else 1) = _
    by_cases hz : s 18 (k : Int) = -1
    · rw [if_pos hz, if_pos (this.1 hz)]
    · rw [if_neg hz, if_neg (by have := this.2 hz; omega)]
  have cd : (w < 0 ∨ 10 < w) → cnv s w = -1 := fun e => by
    unfold cnv
    rw [if_neg (by omega), if_neg (by omega), if_neg (by omega), if_neg (by omega), if_neg (by omega), if_neg (by omega), if_neg (by omega), if_neg (by omega), if_neg (by omega), if_neg (by omega), if_neg (by omega)]
  have l7 : w = 7 → Rn X (d + 12) 250 139 [some (vR 77), some (vI w), some (vI 0), some (vI 0)] [] s P := fun hw => by
    rw [c7 hw] at kk
    clear c0 c1 c2 c3 c4 c5 c6 c7 c8 c9 c10 cd
    have loop : ∀ (m : Nat) (i : Int), 0 ≤ i → i + m = s 83 0 → Rn X (d + 12) 250 139 [some (vR 77), some (vI w), some (vI (sm (fun i => if s 83 (8 + 5 * i) = 1 ∨ s 83 (8 + 5 * i) = 4 then 1 else 0) i.toNat)), some (vI i)] [] s P := by
      intro m
      induction m with
      | zero =>
        intro i i0 im
        have : i = s 83 0 := by omega
        subst this
        apply t_X6_count_139 i0 <;> intros
        all_goals first | exact kk | omega
      | succ m ih =>
        intro i i0 im
        have hx := ih (i + 1) (by omega) (by omega)
        rw [sm_up i0] at hx
        have ar := sm_01 (f := fun i => if s 83 (8 + 5 * i) = 1 ∨ s 83 (8 + 5 * i) = 4 then 1 else 0) (fun i => by split; exact Or.inr rfl; exact Or.inl rfl) i.toNat
        have hki := k12 i i0 (by omega)
        apply t_X6_count_139 i0 <;> intros
        all_goals first | omega | (rw [if_pos (by omega)] at hx; exact hx) | (rw [if_neg (by omega), Int.add_zero] at hx; exact hx)
    exact loop (s 83 0).toNat 0 (by omega) (by omega)
  have l8 : w = 8 → Rn X (d + 12) 250 179 [some (vR 77), some (vI w), some (vI 0), some (vI 0)] [] s P := fun hw => by
    rw [c8 hw] at kk
    clear c0 c1 c2 c3 c4 c5 c6 c7 c8 c9 c10 cd
    have loop : ∀ (m : Nat) (i : Int), 0 ≤ i → i + m = 6 → Rn X (d + 12) 250 179 [some (vR 77), some (vI w), some (vI (sm (fun r => if s 78 r < 0 then 0 else 1) i.toNat)), some (vI i)] [] s P := by
      intro m
      induction m with
      | zero =>
        intro i i0 im
        have : i = 6 := by omega
        subst this
        apply t_X6_count_179 i0 <;> intros
        all_goals first | exact kk | omega
      | succ m ih =>
        intro i i0 im
        have hx := ih (i + 1) (by omega) (by omega)
        rw [sm_up i0] at hx
        have ar := sm_01 (f := fun r => if s 78 r < 0 then 0 else 1) (fun i => by split; exact Or.inl rfl; exact Or.inr rfl) i.toNat
        have hki := Jr_b (r := i) h i0 (by omega)
        apply t_X6_count_179 i0 <;> intros
        all_goals first | omega | (rw [if_neg (by omega)] at hx; exact hx) | (rw [if_pos (by omega), Int.add_zero] at hx; exact hx)
    exact loop 6 0 (by omega) (by omega)
  have l9 : w = 9 → Rn X (d + 12) 250 212 [some (vR 77), some (vI w), some (vI 0), some (vI 0)] [] s P := fun hw => by
    rw [c9 hw] at kk
    clear c0 c1 c2 c3 c4 c5 c6 c7 c8 c9 c10 cd
    have loop : ∀ (m : Nat) (i : Int), 0 ≤ i → i + m = 4 → Rn X (d + 12) 250 212 [some (vR 77), some (vI w), some (vI (sm (fun r => if s 81 r < 0 then 0 else 1) i.toNat)), some (vI i)] [] s P := by
      intro m
      induction m with
      | zero =>
        intro i i0 im
        have : i = 4 := by omega
        subst this
        apply t_X6_count_212 i0 <;> intros
        all_goals first | exact kk | omega
      | succ m ih =>
        intro i i0 im
        have hx := ih (i + 1) (by omega) (by omega)
        rw [sm_up i0] at hx
        have ar := sm_01 (f := fun r => if s 81 r < 0 then 0 else 1) (fun i => by split; exact Or.inl rfl; exact Or.inr rfl) i.toNat
        have hki := Jt_b (t := i) h i0 (by omega)
        apply t_X6_count_212 i0 <;> intros
        all_goals first | omega | (rw [if_neg (by omega)] at hx; exact hx) | (rw [if_pos (by omega), Int.add_zero] at hx; exact hx)
    exact loop 4 0 (by omega) (by omega)
  have l10 : w = 10 → Rn X (d + 12) 250 244 [some (vR 77), some (vI w), some (vI 0), some (vI 0)] [] s P := fun hw => by
    rw [c10 hw] at kk
    clear c0 c1 c2 c3 c4 c5 c6 c7 c8 c9 c10 cd
    have loop : ∀ (m : Nat) (i : Int), 0 ≤ i → i + m = 3 → Rn X (d + 12) 250 244 [some (vR 77), some (vI w), some (vI (sm (fun r => if s 86 r = 0 then 0 else 1) i.toNat)), some (vI i)] [] s P := by
      intro m
      induction m with
      | zero =>
        intro i i0 im
        have : i = 3 := by omega
        subst this
        apply t_X6_count_244 i0 <;> intros
        all_goals first | exact kk | omega
      | succ m ih =>
        intro i i0 im
        have hx := ih (i + 1) (by omega) (by omega)
        rw [sm_up i0] at hx
        have ar := sm_01 (f := fun r => if s 86 r = 0 then 0 else 1) (fun i => by split; exact Or.inl rfl; exact Or.inr rfl) i.toNat
        have hki := hk86 i i0 (by omega)
        have hki2 : s 86 i = 0 ∨ s 86 i = 1 := by omega
        clear hki
        apply t_X6_count_244 i0 <;> intros
        all_goals first | omega | (rw [if_neg (by omega)] at hx; exact hx) | (rw [if_pos (by omega), Int.add_zero] at hx; exact hx)
    exact loop 3 0 (by omega) (by omega)
  clear c7 c8 c9 c10
  apply t_X6_count <;> intros
  all_goals first | (exact l7 (by assumption)) | (exact l8 (by assumption)) | (exact l9 (by assumption)) | (exact l10 (by assumption)) | skip
  all_goals clear l7 l8 l9 l10
  all_goals first | exact rw_ | exact hv.2 | (have hh := c0 (by assumption); rw [hh] at kk; exact kk) | (have hh := c1 (by assumption); rw [hh] at kk; exact kk) | (have hh := c2 (by assumption); rw [hh] at kk; exact kk) | (have hh := c3 (by assumption); rw [hh] at kk; exact kk) | (have hh := c5 (by assumption); rw [hh] at kk; exact kk) | (have hh := c6 (by assumption); rw [hh] at kk; exact kk) | (have hh := cd (by assumption); rw [hh] at kk; exact kk) | skip
  all_goals clear c0 c1 c2 c3 c5 c6 cd
  all_goals first | (have hh := c4 (by assumption); rw [hh] at kk; first | (rw [if_pos (by assumption)] at kk; exact kk) | (rw [if_neg (by omega)] at kk; exact kk) | omega) | (clear c4; omega)
theorem op_count (h : J s) (rw_ : inR w) : Cl X (d + 20) 147 [vR 0, vI w] s (Pw X (d + 20) 250 [vR 77, vI w]) :=
  count_C (d := d + 8) h rw_ (Pw_mk (count_M (d := d + 8) h rw_ ⟨rfl, h⟩))
end OPP
