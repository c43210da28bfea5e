/-! calls side by side: whom to send with whom -/
theorem fews_cut {F : Nat → Option (List Int)} : ∀ (k K n : Nat), k ≤ K → fews F k n = match fews F K n with | some np => if np.1 < n + k then some np else none | none => none := by
  intro k
  induction k with
  | zero =>
    intro K n _
    cases h : fews F K n with
    | none => rfl
    | some np =>
      have := (fews_some K n np h).2.1
      show none = if np.1 < n + 0 then some np else none
      rw [if_neg (by omega)]
  | succ k ih =>
    intro K n hK
    obtain ⟨K', rfl⟩ : ∃ K', K = K' + 1 := ⟨K - 1, by omega⟩
    cases hF : F n with
    | some p =>
      have e : ∀ q, fews F (q + 1) n = some (n, p) := fun q => by
        show (match F n with | some p => some (n, p) | none => fews F q (n + 1)) = _
        rw [hF]
      rw [e, e]
      show some (n, p) = if n < n + (k + 1) then some (n, p) else none
      rw [if_pos (by omega)]
    | none =>
      have e : ∀ q, fews F (q + 1) n = fews F q (n + 1) := fun q => by
        show (match F n with | some p => some (n, p) | none => fews F q (n + 1)) = _
        rw [hF]
      rw [e, e, ih K' (n + 1) (by omega), show n + 1 + k = n + (k + 1) by omega]
/-- the searches of a pair -/
def FW (h : Int → Int) (R i j : Int) : Nat → Option (List Int) := fun m => rF (h (8 + 5 * i)) (h (8 + 5 * j)) R 0 m (W0 h i j)
def mst (h : Int → Int) (R i j : Int) (x : Int × Int) : Int × Int := match fews (FW h R i j) 4 0 with | some np => if (np.1 : Int) ≤ x.2 then (10 * i + j, (np.1 : Int) - 1) else x | none => x
def mj (h : Int → Int) (R i : Int) : Nat → Int → Int × Int → Int × Int
  | 0, _, x => x
  | f + 1, j, x => mj h R i f (j + 1) (mst h R i j x)
def mi (h : Int → Int) (R g : Int) : Nat → Int → Int × Int → Int × Int
  | 0, _, x => x
  | f + 1, i, x => mi h R g f (i + 1) (mj h R i (g - (i + 1)).toNat (i + 1) x)
def mxo (x : Int × Int) : Prop := -1 ≤ x.2 ∧ x.2 ≤ 3 ∧ (x.1 = -9 ∨ (0 ≤ x.1 ∧ x.1 ≤ 60)) ∧ (x.1 = -9 ↔ x.2 = 3)
theorem mst_ok {h : Int → Int} {R i j : Int} {x : Int × Int} (hx : mxo x) (i0 : 0 ≤ i) (i6 : i < 5) (j0 : 0 ≤ j) (j6 : j < 6) : mxo (mst h R i j x) := by
  unfold mst
  cases hf : fews (FW h R i j) 4 0 with
  | none => exact hx
  | some np =>
    have := (fews_some _ _ _ hf).2.2
    obtain ⟨a1, a2, a3, a4⟩ := hx
    show mxo (if (np.1 : Int) ≤ x.2 then (10 * i + j, (np.1 : Int) - 1) else x)
    by_cases hc : (np.1 : Int) ≤ x.2
    · rw [if_pos hc]
      refine ⟨by show -1 ≤ (np.1 : Int) - 1; omega, by show (np.1 : Int) - 1 ≤ 3; omega, Or.inr ⟨by show 0 ≤ 10 * i + j; omega, by show 10 * i + j ≤ 60; omega⟩, ?_⟩
      show 10 * i + j = -9 ↔ (np.1 : Int) - 1 = 3
      omega
    · rw [if_neg hc]
      exact ⟨a1, a2, a3, a4⟩
/-- but for scratch, as it was -/
def scr0 (s s1 : m_St) : Prop := ∀ x j, ¬ (66 ≤ x ∧ x ≤ 75) → ¬ (88 ≤ x ∧ x ≤ 91) → s1 x j = s x j
section OPW
variable {X : List Int32} {d : Nat} {s : m_St} {P : Option Value → m_St → Prop}
theorem match_C (h : J s) : ∀ (f : Nat) (i : Int) (x : Int × Int) (s1 : m_St) (z5 z6 : Option Value), 0 ≤ i → i + f = s 83 0 → mxo x → J s1 → scr0 s s1 → (∀ s' y, y = mi (s 83) (s 38 5) (s 83 0) f i x → mxo y → J s' → scr0 s s' → (y.1 = -9 → P (some (vI (-9))) s') ∧ (¬ y.1 = -9 → P (some (vI y.1)) (m_upd s' 0 9 (y.2 + 1)))) → Rn X (d + 14) 122 23 [some (vR 0), some (vI (s 83 0)), some (vI x.1), some (vI x.2), some (vI i), z5, z6] [] s1 P := by
  have h06 := h.v.2.1.2.1
  intro f
  induction f with
  | zero =>
    intro i x s1 z5 z6 i0 hi hx J1 hs hp
    obtain ⟨p1, p2⟩ := hp s1 x rfl hx J1 hs
    obtain ⟨a1, a2, a3, a4⟩ := hx
    apply t_X5_match_23 i0 <;> intros
    all_goals first | omega | (next g1 g2 => rw [g2]; exact p1 g2) | (next g1 g2 => exact p2 g2)
  | succ f ih =>
    intro i x s1 z5 z6 i0 hi hx J1 hs hp
    have inner : ∀ (f2 : Nat) (j : Int) (y : Int × Int) (s2 : m_St) (z6 : Option Value), i + 1 ≤ j → j + f2 = s 83 0 → mxo y → J s2 → scr0 s s2 → mj (s 83) (s 38 5) i f2 j y = mj (s 83) (s 38 5) i (s 83 0 - (i + 1)).toNat (i + 1) x → Rn X (d + 14) 122 35 [some (vR 0), some (vI (s 83 0)), some (vI y.1), some (vI y.2), some (vI i), some (vI j), z6] [] s2 P := by
      intro f2
      induction f2 with
      | zero =>
        intro j y s2 z6 ji hj hy J2 hs2 he
        have hx' := ih (i + 1) y s2 (some (vI j)) z6 (by omega) (by omega) hy J2 hs2 (fun s' y' hy' ho' J' hs' => hp s' y' (by rw [hy']; show _ = mi (s 83) (s 38 5) (s 83 0) f (i + 1) (mj (s 83) (s 38 5) i (s 83 0 - (i + 1)).toNat (i + 1) x); rw [← he]; rfl) ho' J' hs')
        apply t_X5_match_35 i0 (by omega) (by omega) <;> intros
        all_goals first | omega | exact hx'
      | succ f2 ih2 =>
        intro j y s2 z6 ji hj hy J2 hs2 he
        have e83 : s2 83 = s 83 := funext fun q => hs2 83 q (by omega) (by omega)
        have e38 : s2 38 5 = s 38 5 := hs2 38 5 (by omega) (by omega)
        have v2 := J2.v
        have gk := v2.1.2.2.2.2.2.1
        have gi := gk i i0 (by omega)
        have gj := gk j (by omega) (by omega)
        have ht := tpr_btw (i := i) (j := j) J2 i0 (by rw [e83]; omega) (by omega) (by rw [e83]; omega)
        rw [e83, e38] at ht
        have Jb := J_btw (a := s 38 5) J2 gi gj (by omega)
        have hfw := fwF_tpr (c := 0) ht
        obtain ⟨y1, y2, y3, y4⟩ := hy
        have hcut := fews_cut (F := FW (s 83) (s 38 5) i j) (y.2 + 1).toNat 4 0 (by omega)
        have step : ∀ v4 s4, qFw (btw s2 (44 + 4 * i) (44 + 4 * j) (s 38 5)) 0 y.2 v4 s4 → J s4 ∧ scr0 s s4 ∧ inR v4 ∧ (v4 = -9 → mst (s 83) (s 38 5) i j y = y) ∧ (¬ v4 = -9 → mst (s 83) (s 38 5) i j y = (10 * i + j, v4 - 1)) := by
          intro v4 s4 ⟨q1, q2, q3⟩
          have fs : ∀ x j', ¬ (66 ≤ x ∧ x ≤ 75) → s4 x j' = s2 x j' := fun x j' hx => by rw [q1 x j' (by omega) (by omega), btw_o (by omega)]
          have J4 : J s4 := J_scr J2 (fun x j' h1 _ _ _ _ => fs x j' h1) (tpr_fr ht q1) (fun q => by rw [q1 72 q (by decide) (by omega), btw_o (by omega)]; exact J2.2.2.2.2.2.2.2 q)
          rw [hfw] at q3
          have hcut2 : fews (fun m => rF (s 83 (8 + 5 * i)) (s 83 (8 + 5 * j)) (s 38 5) 0 m (W0 (s 83) i j)) (y.2 + 1).toNat 0 = _ := hcut
          rw [hcut2] at q3
          refine ⟨J4, fun x j' h1 h2 => by rw [fs x j' h1, hs2 x j' h1 h2], ?_⟩
          unfold mst
          cases hfe : fews (FW (s 83) (s 38 5) i j) 4 0 with
          | none =>
            rw [hfe] at q3
            have q3 : v4 = -9 := q3
            exact ⟨by omega, fun _ => rfl, fun z => absurd q3 z⟩
          | some np =>
            have hnp := (fews_some _ _ _ hfe).2.2
            rw [hfe] at q3
            dsimp only at q3 ⊢
            by_cases hc : np.1 < 0 + (y.2 + 1).toNat
            · rw [if_pos hc] at q3
              have q3 : v4 = np.1 := q3.1
              rw [if_pos (by omega)]
              exact ⟨by omega, fun z => by omega, fun _ => by rw [q3]⟩
            · rw [if_neg hc] at q3
              have q3 : v4 = -9 := q3
              rw [if_neg (by omega)]
              exact ⟨by omega, fun _ => rfl, fun z => absurd q3 z⟩
        have hmo := mst_ok (h := s 83) (R := s 38 5) (i := i) (j := j) (x := y) ⟨y1, y2, y3, y4⟩ i0 (by omega) (by omega) (by omega)
        have he' : mj (s 83) (s 38 5) i f2 (j + 1) (mst (s 83) (s 38 5) i j y) = mj (s 83) (s 38 5) i (s 83 0 - (i + 1)).toNat (i + 1) x := he
        rw [← e38] at step Jb
        apply t_X5_match_35 i0 (by omega) (by omega) <;> intros
        all_goals first | omega | exact gi | exact gj | exact Jb.2.2.2.2.2.2.1 | (next v4 s4 q => exact (step v4 s4 q).2.2.1) | skip
        · next g1 g2 v4 s4 q hv =>
          obtain ⟨J4, hs4, _, t1, _⟩ := step v4 s4 q
          have := ih2 (j + 1) (mst (s 83) (s 38 5) i j y) s4 (some (vI v4)) (by omega) (by omega) hmo J4 hs4 he'
          have t1 := t1 hv
          rw [e38] at t1
          rw [t1] at this
          exact this
        · next g1 g2 v4 s4 q hv =>
          obtain ⟨J4, hs4, _, _, t2⟩ := step v4 s4 q
          have := ih2 (j + 1) (mst (s 83) (s 38 5) i j y) s4 (some (vI v4)) (by omega) (by omega) hmo J4 hs4 he'
          have t2 := t2 hv
          rw [e38] at t2
          rw [t2] at this
          exact this
    have hx' := inner (s 83 0 - (i + 1)).toNat (i + 1) x s1 z6 (by omega) (by omega) hx J1 hs rfl
    have hx2 := hx
    obtain ⟨a1, a2, a3, a4⟩ := hx2
    apply t_X5_match_23 i0 <;> intros
    all_goals first | omega | exact hx'
def scr1 (s s1 : m_St) : Prop := s1 83 = s 83 ∧ s1 38 5 = s 38 5
theorem match_M (h : J s) : ∀ (f : Nat) (i : Int) (x : Int × Int) (s1 : m_St) (z4 z5 z6 : Option Value), 0 ≤ i → i + f = s 83 0 → mxo x → scr1 s s1 → (∀ s' y, y = mi (s 83) (s 38 5) (s 83 0) f i x → mxo y → scr1 s s' → (∀ a j, ¬ (88 ≤ a ∧ a ≤ 91) → s' a j = s1 a j) → (y.1 = -9 → P (some (vI (-9))) s') ∧ (¬ y.1 = -9 → P (some (vI y.1)) (m_upd s' 77 11 (y.2 + 1)))) → Rn X (d + 6) 229 17 [some (vR 77), some (vI x.1), some (vI (x.2 + 1)), some (vI i), z4, z5, z6] [] s1 P := by
  have hk := h.v.2
  have h06 := hk.1.2.1
  intro f
  induction f with
  | zero =>
    intro i x s1 z4 z5 z6 i0 hi hx hs hp
    have e0 : s1 83 0 = s 83 0 := by rw [hs.1]
    obtain ⟨p1, p2⟩ := hp s1 x rfl hx hs (fun _ _ _ => rfl)
    obtain ⟨a1, a2, a3, a4⟩ := hx
    apply t_X6_match_17 i0 <;> intros
    all_goals first | omega | (next g1 g2 => exact p1 g2) | (next g1 g2 => exact p2 g2)
  | succ f ih =>
    intro i x s1 z4 z5 z6 i0 hi hx hs hp
    have e0 : s1 83 0 = s 83 0 := by rw [hs.1]
    have inner : ∀ (f2 : Nat) (j : Int) (y : Int × Int) (s2 : m_St) (z5 z6 : Option Value), i + 1 ≤ j → j + f2 = s 83 0 → mxo y → scr1 s s2 → (∀ a j, ¬ (88 ≤ a ∧ a ≤ 91) → s2 a j = s1 a j) → mj (s 83) (s 38 5) i f2 j y = mj (s 83) (s 38 5) i (s 83 0 - (i + 1)).toNat (i + 1) x → Rn X (d + 6) 229 32 [some (vR 77), some (vI y.1), some (vI (y.2 + 1)), some (vI i), some (vI j), z5, z6] [] s2 P := by
      intro f2
      induction f2 with
      | zero =>
        intro j y s2 z5 z6 ji hj hy hs2 hc2 he
        have e02 : s2 83 0 = s 83 0 := by rw [hs2.1]
        have hx' := ih (i + 1) y s2 (some (vI j)) z5 z6 (by omega) (by omega) hy hs2 (fun s' y' hy' ho' hs' hc' => hp s' y' (by rw [hy']; show _ = mi (s 83) (s 38 5) (s 83 0) f (i + 1) (mj (s 83) (s 38 5) i (s 83 0 - (i + 1)).toNat (i + 1) x); rw [← he]; rfl) ho' hs' (fun a j ha => by rw [hc' a j ha, hc2 a j ha]))
        apply t_X6_match_32 i0 (by omega) (by omega) <;> intros
        all_goals first | omega | exact hx'
      | succ f2 ih2 =>
        intro j y s2 z5 z6 ji hj hy hs2 hc2 he
        have e02 : s2 83 0 = s 83 0 := by rw [hs2.1]
        have e83 : s2 83 = s 83 := hs2.1
        have e38 : s2 38 5 = s 38 5 := hs2.2
        obtain ⟨y1, y2, y3, y4⟩ := hy
        have opn : ∀ s3, qOp s2 i j s3 → opS s3 ∧ w8 (wt s3 0) ∧ ∀ v4 s4, qAg s3 0 3 v4 s4 → scr1 s s4 ∧ (∀ a j, ¬ (88 ≤ a ∧ a ≤ 91) → s4 a j = s1 a j) ∧ inR v4 ∧ (v4 = -9 → mst (s 83) (s 38 5) i j y = y) ∧ (¬ v4 = -9 → y.2 + 1 ≤ v4 → mst (s 83) (s 38 5) i j y = y) ∧ (¬ v4 = -9 → v4 < y.2 + 1 → mst (s 83) (s 38 5) i j y = (10 * i + j, v4 - 1)) := by
          intro s3 hq
          obtain ⟨ho, hw0, hw8⟩ := opk_of hk i0 (by omega) (by omega) (by omega) hq e83 e38
          refine ⟨by unfold opS; rw [ho.1, ho.2.1, ho.2.2.2.2.2.2.1]; exact ho, hw8, fun v4 s4 ⟨a1, a2⟩ => ?_⟩
          rw [ho.1, ho.2.1, ho.2.2.2.2.2.2.1, hw0] at a2
          have f4 : ∀ a j, ¬ (88 ≤ a ∧ a ≤ 91) → s4 a j = s2 a j := fun a j ha => by rw [a1 a j (by omega) (by omega), hq.1 a j (by omega) (by omega)]
          refine ⟨⟨funext fun q => by rw [f4 83 q (by omega), hs2.1], by rw [f4 38 5 (by omega), hs2.2]⟩, fun a j ha => by rw [f4 a j ha, hc2 a j ha], ?_⟩
          have a2' : agM (FW (s 83) (s 38 5) i j) 4 0 v4 s4 := a2
          unfold agM at a2'
          unfold mst
          cases hfe : fews (FW (s 83) (s 38 5) i j) 4 0 with
          | none =>
            rw [hfe] at a2'
            have a2' : v4 = -9 := a2'
            exact ⟨by omega, fun _ => rfl, fun z => absurd a2' z, fun z => absurd a2' z⟩
          | some np =>
            have hnp := (fews_some _ _ _ hfe).2.2
            rw [hfe] at a2'
            have a2' : v4 = np.1 := a2'.1
            dsimp only
            refine ⟨by omega, fun z => by omega, fun _ hl => by rw [if_neg (by omega)], fun _ hl => by rw [if_pos (by omega), a2']⟩
        have hmo := mst_ok (h := s 83) (R := s 38 5) (i := i) (j := j) (x := y) ⟨y1, y2, y3, y4⟩ i0 (by omega) (by omega) (by omega)
        have he' : mj (s 83) (s 38 5) i f2 (j + 1) (mst (s 83) (s 38 5) i j y) = mj (s 83) (s 38 5) i (s 83 0 - (i + 1)).toNat (i + 1) x := he
        have go := fun s4 z5 z6 (a : scr1 s s4) b => ih2 (j + 1) (mst (s 83) (s 38 5) i j y) s4 z5 z6 (by omega) (by omega) hmo a b he'
        apply t_X6_match_32 i0 (by omega) (by omega) <;> intros
        all_goals first | omega | (next s3 q => exact (opn s3 q).1) | (next s3 q => exact (opn s3 q).2.1) | (next s3 q v4 s4 a => exact ((opn s3 q).2.2 v4 s4 a).2.2.1) | skip
        · next s3 q v4 s4 a hv =>
          obtain ⟨b1, b2, _, t1, _, _⟩ := (opn s3 q).2.2 v4 s4 a
          have := go s4 (some (vI v4)) (some (vI 0)) b1 b2
          rw [t1 hv] at this
          exact this
        · next s3 q v4 s4 a hv hl =>
          obtain ⟨b1, b2, _, _, t2, _⟩ := (opn s3 q).2.2 v4 s4 a
          have := go s4 (some (vI v4)) (some (vI 0)) b1 b2
          rw [t2 hv hl] at this
          exact this
        · next s3 q v4 s4 a hv hl =>
          obtain ⟨b1, b2, _, _, _, t3⟩ := (opn s3 q).2.2 v4 s4 a
          have := go s4 (some (vI v4)) (some (vI 1)) b1 b2
          rw [t3 hv hl] at this
          have ev : v4 - 1 + 1 = v4 := by omega
          rw [ev] at this
          exact this
    have hx' := inner (s 83 0 - (i + 1)).toNat (i + 1) x s1 z5 z6 (by omega) (by omega) hx hs (fun _ _ _ => rfl) rfl
    have hx2 := hx
    obtain ⟨a1, a2, a3, a4⟩ := hx2
    apply t_X6_match_17 i0 <;> intros
    all_goals first | omega | exact hx'
theorem op_match (h : J s) : Cl X (d + 20) 122 [vR 0] s (Pw X (d + 20) 229 [vR 77]) := by
  have h7 := J_7 h
  have x3 : mxo ((-9 : Int), (3 : Int)) := ⟨by decide, by decide, Or.inl rfl, by decide⟩
  have e38 := h7.2.2.2.1
  apply t_X5_match <;> intros
  all_goals first | omega | skip
  · rw [e38]
    refine match_C (d := d + 6) (P := Pw X (d + 20) 229 [vR 77]) h (s 83 0).toNat 0 ((-9 : Int), (3 : Int)) s none none (by omega) (by omega) x3 h (fun _ _ _ _ => rfl) (fun s' y hy ho J' hs' => ?_)
    have e83 : s' 83 0 = s 83 0 := hs' 83 0 (by omega) (by omega)
    have sw : ∀ a b, J a → (∀ x j, ¬ (88 ≤ x ∧ x ≤ 91) → b x j = a x j) → J b := fun a b ja e => J_scr ja (fun x j _ _ _ h4 _ => e x j h4) (tkok_cong (fun x j c0 c1 => e x j (by omega)) ja.2.2.2.2.2.2.1) (fun i => by rw [e 72 i (by decide)]; exact ja.2.2.2.2.2.2.2 i)
    refine ⟨fun hz => Pw_mk ?_, fun hz => Pw_mk ?_⟩
    · apply t_X6_match <;> intros
      all_goals first | omega | skip
      refine match_M (d := d + 14) h (s 83 0).toNat 0 ((-9 : Int), (3 : Int)) s' none none none (by omega) (by omega) x3 ⟨funext fun q => hs' 83 q (by omega) (by omega), hs' 38 5 (by omega) (by omega)⟩ (fun s2 y2 hy2 _ _ hc2 => ?_)
      rw [← hy] at hy2
      subst hy2
      exact ⟨fun _ => ⟨rfl, sw _ _ J' hc2⟩, fun q => absurd hz q⟩
    · have e1 : m_upd s' 0 9 (y.2 + 1) 83 0 = s 83 0 := by rw [upd_nc (by decide)]; exact e83
      apply t_X6_match <;> intros
      all_goals first | omega | skip
      refine match_M (d := d + 14) h (s 83 0).toNat 0 ((-9 : Int), (3 : Int)) (m_upd s' 0 9 (y.2 + 1)) none none none (by omega) (by omega) x3 ⟨funext fun q => by rw [upd_nc (by decide)]; exact hs' 83 q (by omega) (by omega), by rw [upd_nc (by decide)]; exact hs' 38 5 (by omega) (by omega)⟩ (fun s2 y2 hy2 _ _ hc2 => ?_)
      rw [← hy] at hy2
      subst hy2
      refine ⟨fun q => absurd q hz, fun _ => ⟨rfl, ?_⟩⟩
      refine J_told J' (fun c q h09 c1 c2 c3 c4 c5 => by rw [hc2 c q c4, upd_o2 h09]) (tkok_cong (fun c q c0 c1 => by rw [hc2 c q (by omega), upd_nc (by omega)]) J'.2.2.2.2.2.2.1) (fun q => by rw [hc2 72 q (by decide), upd_nc (by decide)]; exact J'.2.2.2.2.2.2.2 q) ?_
      rw [hc2 0 9 (by decide), upd_eq]
  · refine Pw_mk ?_
    apply t_X6_match <;> intros
    all_goals first | omega | exact ⟨rfl, h⟩
end OPW
