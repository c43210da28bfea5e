section SPKB
variable {X : List Int32} {d : Nat} {s : m_St} {P : Option Value → m_St → Prop} {i r b c : Int}
theorem fr80.tr {a b c : m_St} (h1 : fr80 a b) (h2 : fr80 b c) : fr80 a c := fun x j hx => by rw [h2 x j hx, h1 x j hx]
theorem fr80_upd {a : m_St} {j v : Int} : fr80 a (m_upd a 80 j v) := fun x i hx => upd_nc hx
theorem inR20 {v : Int} (h : 0 ≤ v ∧ v ≤ 20) : inR v := by omega
theorem sp_kindsByM (hk : mok s) (i0 : 0 ≤ i) (i1 : i < s 83 0) (r0 : 0 ≤ r) (r6 : r < 6) (z0 : 0 ≤ s 78 r) (z4 : s 78 r ≤ 40) (z3 : s 78 r % 3 = 0) (ha : atM s r) (kk : ∀ (v : Int) (s' : m_St), v = kbs (fun q => pb (fiM s i r q)) 6 ∧ fr80 s s' → P (some (vI v)) s') : Cl X (d + 2) 235 [vR 77, vI i, vI r] s P := by
  obtain ⟨i6, k0, k6, hw⟩ := hk.g i0 i1
  apply t_X6_kindsBy r0 r6 i0 i6
  -- the weights supposed, then one triple tried
  have inner : ∀ (q k z b : Int) (s1 : m_St), 0 ≤ q → q < 6 → 0 ≤ k → k < s 78 r → k % 3 = 0 → inR z → (b = 0 ∨ b = 1) → fr80 s s1 → (∀ (b' : Int) (s2 : m_St) (z7 z8 : Option Value), fr80 s s2 → b' = (if b = 0 then 0 else pb (fitM s i r q k)) → Rn X (d + 2) 235 18 [some (vR 77), some (vI i), some (vI r), some (vI z), some (vI q), some (vI b'), some (vI (k + 3)), z7, z8] [] s2 P) → Rn X (d + 2) 235 41 [some (vR 77), some (vI i), some (vI r), some (vI z), some (vI q), some (vI b), some (vI k), some (vI (40 * r + k)), some (vI 0)] [] s1 P := by
    intro q k z b s1 q0 q6 kk0 kk1 kk3 hz hb hfr hp
    obtain ⟨⟨c0, c4⟩, ⟨v0, v20⟩, t9, t13⟩ := ha k kk0 kk1 kk3
    have e79 : ∀ (s2 : m_St), fr80 s s2 → ∀ j, s2 79 j = s 79 j := fun s2 h2 j => h2 79 j (by decide)
    have loop : ∀ (m : Nat) (c : Int) (s2 : m_St), 0 ≤ c → c + m = 4 → fr80 s s2 → (∀ x, 0 ≤ x → x < c → s2 80 x = if x = s 79 (40 * r + k) then s 79 (40 * r + k + 1) else s 83 (9 + 5 * i + x)) → Rn X (d + 2) 235 41 [some (vR 77), some (vI i), some (vI r), some (vI z), some (vI q), some (vI b), some (vI k), some (vI (40 * r + k)), some (vI c)] [] s2 P := by
      intro m
      induction m with
      | zero =>
        intro c s2 cc0 cm h2 hx
        have c4e : c = 4 := by omega
        subst c4e
        have f1 := e79 s2 h2 (40 * r + k)
        have f2 := e79 s2 h2 (40 * r + k + 2)
        have f38 : s2 38 5 = s 38 5 := h2 38 5 (by decide)
        have f83 : s2 83 7 = s 83 7 := h2 83 7 (by decide)
        have hwr : ∀ x, 0 ≤ x → x < 4 → inR (s2 80 (0 + x)) := fun x x0 x1 => by
          rw [show 0 + x = x by omega, hx x x0 x1]
          by_cases hxx : x = s 79 (40 * r + k)
          · rw [if_pos hxx]; omega
          · rw [if_neg hxx]; exact inR20 (hw x x0 x1)
        have hse : hset (fun c => s2 80 (0 + c)) (hf q) = hset (fun c => if c = s 79 (40 * r + k) then s 79 (40 * r + k + 1) else s 83 (9 + 5 * i + c)) (hf q) := hset_cong fun x x0 x1 => by rw [show 0 + x = x by omega]; exact hx x x0 x1
        have hr := hset_r (fun c => s2 80 (0 + c)) (hf q)
        have mr := mv_r q (hset (fun c => s2 80 (0 + c)) (hf q)) (s2 38 5) (s2 79 (40 * r + k))
        have ev : fitM s i r q k ↔ mv q (hset (fun c => s2 80 (0 + c)) (hf q)) (s2 38 5) (s2 79 (40 * r + k)) + 10 = s2 79 (40 * r + k + 2) := by
          unfold fitM
          rw [hse, f1, f2, f38]
        have n0 : b = 0 → ∀ z7 z8, Rn X (d + 2) 235 18 [some (vR 77), some (vI i), some (vI r), some (vI z), some (vI q), some (vI 0), some (vI (k + 3)), z7, z8] [] s2 P := fun hb0 z7 z8 => hp 0 s2 z7 z8 h2 (by rw [if_pos hb0])
        have n1 : ¬ b = 0 → ¬ fitM s i r q k → ∀ z7 z8, Rn X (d + 2) 235 18 [some (vR 77), some (vI i), some (vI r), some (vI z), some (vI q), some (vI 0), some (vI (k + 3)), z7, z8] [] s2 P := fun hb0 hn z7 z8 => hp 0 s2 z7 z8 h2 (by rw [if_neg hb0, pb_f hn])
        have n2 : ¬ b = 0 → fitM s i r q k → ∀ z7 z8, Rn X (d + 2) 235 18 [some (vR 77), some (vI i), some (vI r), some (vI z), some (vI q), some (vI 1), some (vI (k + 3)), z7, z8] [] s2 P := fun hb0 hn z7 z8 => hp 1 s2 z7 z8 h2 (by rw [if_neg hb0, pb_t hn])
        have htr : tr (s2 38 5) (s2 83 7) := by rw [f38, f83]; exact hk.2
        apply t_X6_kindsBy_41 r0 r6 i0 i6 q0 kk0 <;> intros
        all_goals first | (exact n0 (by assumption) _ _) | (exact n1 (by assumption) (fun z => absurd (ev.mp z) (by assumption)) _ _) | (exact n2 (by assumption) (ev.mpr (by assumption)) _ _) | exact htr | exact hwr | exact hr.1 | exact hr.2 | omega
      | succ m ih =>
        intro c s2 cc0 cm h2 hx
        have f1 := e79 s2 h2 (40 * r + k)
        have f2 := e79 s2 h2 (40 * r + k + 1)
        have f3 : s2 83 (8 + 5 * i + 1 + c) = s 83 (9 + 5 * i + c) := by rw [h2 83 _ (by decide), show 8 + 5 * i + 1 + c = 9 + 5 * i + c by omega]
        have step : ∀ v, v = (if c = s 79 (40 * r + k) then s 79 (40 * r + k + 1) else s 83 (9 + 5 * i + c)) → Rn X (d + 2) 235 41 [some (vR 77), some (vI i), some (vI r), some (vI z), some (vI q), some (vI b), some (vI k), some (vI (40 * r + k)), some (vI (c + 1))] [] (m_upd s2 80 c v) P := fun v hv => by
          refine ih (c + 1) _ (by omega) (by omega) (h2.tr fr80_upd) (fun x x0 x1 => ?_)
          by_cases hxc : x = c
          · rw [hxc, upd_eq, hv]
          · rw [upd_nj hxc]
            exact hx x x0 (by omega)
        apply t_X6_kindsBy_41 r0 r6 i0 i6 q0 kk0 <;> intros
        all_goals first | (refine step _ ?_; rw [if_neg (by omega), f3]; done) | (refine step _ ?_; rw [if_pos (by omega), f2]; done) | omega
    exact loop 4 0 s1 (by omega) (by omega) hfr (fun x x0 x1 => by omega)
  have mid : ∀ (q z : Int), 0 ≤ q → q < 6 → inR z → (∀ (b' : Int) (s2 : m_St) (z6 z7 z8 : Option Value), fr80 s s2 → b' = pb (fiM s i r q) → Rn X (d + 2) 235 5 [some (vR 77), some (vI i), some (vI r), some (vI (if b' = 0 then z else iOr z (iShl 1 q))), some (vI (q + 1)), some (vI b'), z6, z7, z8] [] s2 P) → ∀ (m : Nat) (k b : Int) (s1 : m_St) (z7 z8 : Option Value), 0 ≤ k → k % 3 = 0 → k + 3 * m = s 78 r → fr80 s s1 → ((b = 1 ∧ ∀ x, 0 ≤ x → x < k → x % 3 = 0 → fitM s i r q x) ∨ (b = 0 ∧ ¬ fiM s i r q)) → Rn X (d + 2) 235 18 [some (vR 77), some (vI i), some (vI r), some (vI z), some (vI q), some (vI b), some (vI k), z7, z8] [] s1 P := by
    intro q z q0 q6 hz hp m
    induction m with
    | zero =>
      intro k b s1 z7 z8 kk0 kk3 km hfr hb
      have e78 : s1 78 r = s 78 r := hfr 78 r (by decide)
      have hbv : b = pb (fiM s i r q) := by
        rcases hb with ⟨hb, ha2⟩ | ⟨hb, ha2⟩
        · have : fiM s i r q := fun x x0 x1 x3 => ha2 x x0 (by omega) x3
          rw [hb, pb_t this]
        · rw [hb, pb_f ha2]
      have hb01 := pb_r (fiM s i r q)
      rw [← hbv] at hb01
      have p0 : b = 0 → ∀ z6 z7 z8, Rn X (d + 2) 235 5 [some (vR 77), some (vI i), some (vI r), some (vI (iOr z 0)), some (vI (q + 1)), some (vI b), z6, z7, z8] [] s1 P := fun h0 z6 z7 z8 => by
        have := hp b s1 z6 z7 z8 hfr hbv
        rw [if_pos h0] at this
        rw [or_0 hz]
        exact this
      have p1 : ¬ b = 0 → ∀ z6 z7 z8, Rn X (d + 2) 235 5 [some (vR 77), some (vI i), some (vI r), some (vI (iOr z (iShl 1 q))), some (vI (q + 1)), some (vI b), z6, z7, z8] [] s1 P := fun h0 z6 z7 z8 => by
        have := hp b s1 z6 z7 z8 hfr hbv
        rw [if_neg h0] at this
        exact this
      apply t_X6_kindsBy_18 r0 r6 i0 i6 q0 kk0 <;> intros
      all_goals first | (exact p0 (by assumption) _ _ _) | (exact p1 (by assumption) _ _ _) | omega
    | succ m ih =>
      intro k b s1 z7 z8 kk0 kk3 km hfr hb
      have e78 : s1 78 r = s 78 r := hfr 78 r (by decide)
      have hb01 : b = 0 ∨ b = 1 := by
        rcases hb with ⟨hb, _⟩ | ⟨hb, _⟩
        · exact Or.inr hb
        · exact Or.inl hb
      have fin : Rn X (d + 2) 235 41 [some (vR 77), some (vI i), some (vI r), some (vI z), some (vI q), some (vI b), some (vI k), some (vI (40 * r + k)), some (vI 0)] [] s1 P := inner q k z b s1 q0 q6 kk0 (by omega) kk3 hz hb01 hfr (fun b' s2 z7 z8 h2 hb' => by
          refine ih (k + 3) b' s2 z7 z8 (by omega) (by omega) (by omega) h2 ?_
          rcases hb with ⟨hb, ha2⟩ | ⟨hb, ha2⟩
          · rw [if_neg (by omega)] at hb'
            by_cases hft : fitM s i r q k
            · rw [pb_t hft] at hb'
              refine Or.inl ⟨hb', fun x x0 x1 x3 => ?_⟩
              by_cases hx : x = k
              · rw [hx]; exact hft
              · exact ha2 x x0 (by omega) x3
            · rw [pb_f hft] at hb'
              exact Or.inr ⟨hb', fun hz2 => hft (hz2 k kk0 (by omega) kk3)⟩
          · rw [if_pos hb] at hb'
            exact Or.inr ⟨hb', ha2⟩)
      apply t_X6_kindsBy_18 r0 r6 i0 i6 q0 kk0 <;> intros
      all_goals first | exact fin | omega
  have outer : ∀ (m : Nat) (q : Int) (s1 : m_St) (z5 z6 z7 z8 : Option Value), 0 ≤ q → q + m = 6 → fr80 s s1 → Rn X (d + 2) 235 5 [some (vR 77), some (vI i), some (vI r), some (vI (kbs (fun q => pb (fiM s i r q)) q.toNat)), some (vI q), z5, z6, z7, z8] [] s1 P := by
    intro m
    induction m with
    | zero =>
      intro q s1 z5 z6 z7 z8 q0 qm hfr
      have : q = 6 := by omega
      subst this
      apply t_X6_kindsBy_5 r0 r6 i0 i6 q0 <;> intros
      all_goals first | exact kk _ _ ⟨rfl, hfr⟩ | omega
    | succ m ih =>
      intro q s1 z5 z6 z7 z8 q0 qm hfr
      have hzr : inR (kbs (fun q => pb (fiM s i r q)) q.toNat) := by
        cases q.toNat with
        | zero => exact inR_0
        | succ n =>
          have : ∀ n : Nat, inR (kbs (fun q => pb (fiM s i r q)) n) := fun n => by
            induction n with
            | zero => exact inR_0
            | succ n ih2 =>
              show inR (if _ = 0 then _ else _)
              split
              · exact ih2
              · exact inR_iOr _ _
          exact this _
      have fin : Rn X (d + 2) 235 18 [some (vR 77), some (vI i), some (vI r), some (vI (kbs (fun q => pb (fiM s i r q)) q.toNat)), some (vI q), some (vI 1), some (vI 0), z7, z8] [] s1 P := mid q _ q0 (by omega) hzr (fun b' s2 z6 z7 z8 h2 hb' => by
          have := ih (q + 1) s2 (some (vI b')) z6 z7 z8 (by omega) (by omega) h2
          rw [kbs_up q0] at this
          rw [hb'] at this ⊢
          exact this) ((s 78 r).toNat / 3) 0 1 s1 z7 z8 (by omega) (by omega) (by omega) hfr (Or.inl ⟨rfl, fun x x0 x1 => by omega⟩)
      apply t_X6_kindsBy_5 r0 r6 i0 i6 q0 <;> intros
      all_goals first | exact fin | omega
  exact outer 6 0 s none none none none (by omega) (by omega) (fun _ _ _ => rfl)
theorem sp_alike (hk : mok s) (i0 : 0 ≤ i) (i1 : i < s 83 0) (c0 : 0 ≤ c) (c4 : c < 4) (kk : P (some (vI (alm b (mvM s i c) 5))) s) : Cl X (d + 2) 237 [vR 77, vI i, vI b, vI c] s P := by
  obtain ⟨i6, k0, k6, hw⟩ := hk.g i0 i1
  apply t_X6_alike i0 i6
  have ehs : ∀ q, hset (fun c => s 83 (8 + 5 * i + 1 + c)) (hf q) = hset (fun x => s 83 (9 + 5 * i + x)) (hf q) := fun q => hset_cong fun x _ _ => by rw [show 8 + 5 * i + 1 + x = 9 + 5 * i + x by omega]
  have hwr : ∀ x, 0 ≤ x → x < 4 → inR (s 83 (8 + 5 * i + 1 + x)) := fun x x0 x1 => by rw [show 8 + 5 * i + 1 + x = 9 + 5 * i + x by omega]; exact inR20 (hw x x0 x1)
  have inner : ∀ (mx y : Int), inR mx → -1 ≤ y → y ≤ 4 → (∀ (v : Int) (z6 z7 : Option Value), v = max mx (sm (alt b (mvM s i c) y) 6) → Rn X (d + 2) 237 6 [some (vR 77), some (vI i), some (vI b), some (vI c), some (vI v), some (vI (y + 1)), z6, z7] [] s P) → ∀ (m : Nat) (q : Int), 0 ≤ q → q + m = 6 → Rn X (d + 2) 237 18 [some (vR 77), some (vI i), some (vI b), some (vI c), some (vI mx), some (vI y), some (vI (sm (alt b (mvM s i c) y) q.toNat)), some (vI q)] [] s P := by
    intro mx y hmx y0 y4 hp m
    induction m with
    | zero =>
      intro q q0 qm
      have : q = 6 := by omega
      subst this
      have ar := alt_r (b := b) (f := mvM s i c) (y := y) (Int.toNat 6)
      have e6 : Int.toNat 6 = 6 := rfl
      rw [e6] at ar ⊢
      apply t_X6_alike_18 i0 i6 q0 <;> intros
      all_goals first | (refine hp _ _ _ ?_; omega) | omega
    | succ m ih =>
      intro q q0 qm
      have ar := alt_r (b := b) (f := mvM s i c) (y := y) q.toNat
      have hx := ih (q + 1) (by omega) (by omega)
      rw [sm_up q0] at hx
      have hr := hset_r (fun c => s 83 (8 + 5 * i + 1 + c)) (hf q)
      have mr := mv_r q (hset (fun c => s 83 (8 + 5 * i + 1 + c)) (hf q)) (s 38 5) c
      have em : mv q (hset (fun c => s 83 (8 + 5 * i + 1 + c)) (hf q)) (s 38 5) c = mvM s i c q := by unfold mvM; rw [ehs]
      rw [em] at mr
      have a0 : ¬ (iAnd (iShr b q) 1 = 1 ∧ mvM s i c q = y) → Rn X (d + 2) 237 18 [some (vR 77), some (vI i), some (vI b), some (vI c), some (vI mx), some (vI y), some (vI (sm (alt b (mvM s i c) y) q.toNat)), some (vI (q + 1))] [] s P := fun hn => by
        rw [show alt b (mvM s i c) y q = 0 from if_neg hn, Int.add_zero] at hx
        exact hx
      have a1 : (iAnd (iShr b q) 1 = 1 ∧ mvM s i c q = y) → Rn X (d + 2) 237 18 [some (vR 77), some (vI i), some (vI b), some (vI c), some (vI mx), some (vI y), some (vI (sm (alt b (mvM s i c) y) q.toNat + 1)), some (vI (q + 1))] [] s P := fun hn => by
        rw [show alt b (mvM s i c) y q = 1 from if_pos hn] at hx
        exact hx
      apply t_X6_alike_18 i0 i6 q0 <;> intros
      all_goals (try rw [em] at *)
      all_goals first | (refine a0 (fun z => ?_); first | exact absurd z.1 (by assumption) | exact absurd z.2 (by assumption)) | (exact a1 ⟨by assumption, by assumption⟩) | exact hk.2 | exact hwr | exact hr.1 | exact hr.2 | omega
  have outer : ∀ (m : Nat) (n : Nat) (z6 z7 : Option Value), n + m = 5 → Rn X (d + 2) 237 6 [some (vR 77), some (vI i), some (vI b), some (vI c), some (vI (alm b (mvM s i c) n)), some (vI ((n : Int) - 1)), z6, z7] [] s P := by
    intro m
    induction m with
    | zero =>
      intro n z6 z7 nm
      have : n = 5 := by omega
      subst this
      apply t_X6_alike_6 i0 i6 <;> intros
      all_goals first | exact kk | omega
    | succ m ih =>
      intro n z6 z7 nm
      have ar := alm_r (b := b) (f := mvM s i c) n
      have fin : Rn X (d + 2) 237 18 [some (vR 77), some (vI i), some (vI b), some (vI c), some (vI (alm b (mvM s i c) n)), some (vI ((n : Int) - 1)), some (vI 0), some (vI 0)] [] s P := inner _ _ (by omega) (by omega) (by omega) (fun v z6 z7 hv => by
          have := ih (n + 1) z6 z7 (by omega)
          rw [hv, show ((n : Int) - 1 + 1) = ((n + 1 : Nat) : Int) - 1 by omega]
          exact this) 6 0 (by omega) (by omega)
      apply t_X6_alike_6 i0 i6 <;> intros
      all_goals first | exact fin | omega
  exact outer 5 0 none none (by omega)
end SPKB
