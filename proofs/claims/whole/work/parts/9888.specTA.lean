/-! talks of the reference: weights at each depth -/
def wt (s : m_St) (n : Int) : Int → Int := fun j => if 0 ≤ j ∧ j < 8 then s 89 (8 * n + j) else 0
def w8 (w : Int → Int) : Prop := ∀ c, 0 ≤ c → c < 8 → 0 ≤ w c ∧ w c ≤ 20
/-- two have been opened: their kinds, the reasons -/
def opk (s : m_St) (k0 k1 R : Int) : Prop := s 88 0 = k0 ∧ s 88 1 = k1 ∧ 0 ≤ k0 ∧ k0 < 6 ∧ 0 ≤ k1 ∧ k1 < 6 ∧ s 38 5 = R ∧ tr R (s 83 7)
theorem hA_cong {k0 : Int} {w w' : Int → Int} (e : ∀ j, 0 ≤ j → j < 8 → w j = w' j) : hA k0 w = hA k0 w' := hset_cong fun c c0 c1 => e c c0 (by omega)
theorem hB_cong {k1 : Int} {w w' : Int → Int} (e : ∀ j, 0 ≤ j → j < 8 → w j = w' j) : hB k1 w = hB k1 w' := hset_cong fun c c0 c1 => e (4 + c) (by omega) (by omega)
theorem utw_cong {k0 k1 R a : Int} {w w' : Int → Int} (e : ∀ j, 0 ≤ j → j < 8 → w j = w' j) (a0 : 0 ≤ a) (a8 : a < 8) : ∀ j, 0 ≤ j → j < 8 → utw k0 k1 R w a j = utw k0 k1 R w' a j := by
  intro j j0 j1
  unfold utw
  rw [hA_cong e, hB_cong e, e (ixw a) (by unfold ixw; split <;> omega) (by unfold ixw; split <;> omega)]
  unfold setf
  split
  · rfl
  · exact e j j0 j1
theorem w8_utw {k0 k1 R a : Int} {w : Int → Int} (h : w8 w) : w8 (utw k0 k1 R w a) := by
  intro c c0 c1
  unfold utw setf
  split
  · exact cl_r _
  · exact h c c0 c1
theorem wt_in {s : m_St} {n j : Int} (j0 : 0 ≤ j) (j1 : j < 8) : wt s n j = s 89 (8 * n + j) := if_pos ⟨j0, j1⟩
section SPTA
variable {X : List Int32} {d : Nat} {s : m_St} {P : Option Value → m_St → Prop} {n w z f k0 k1 R i j r : Int}
theorem held_0 (hk : s 88 0 = k0) : hset (fun c => s 89 (8 * n + 4 * 0 + c)) (hf (s 88 0)) = hA k0 (wt s n) := by
  rw [hk]
  exact hset_cong fun c c0 c1 => by rw [wt_in c0 (by omega), show 8 * n + 4 * 0 + c = 8 * n + c by omega]
theorem held_1 (hk : s 88 1 = k1) : hset (fun c => s 89 (8 * n + 4 * 1 + c)) (hf (s 88 1)) = hB k1 (wt s n) := by
  rw [hk]
  exact hset_cong fun c c0 c1 => by
    show s 89 (8 * n + 4 * 1 + c) = wt s n (4 + c)
    rw [wt_in (by omega) (by omega), show 8 * n + 4 * 1 + c = 8 * n + (4 + c) by omega]
theorem wt_wr (hw : w8 (wt s n)) {q : Int} (q0 : q = 0 ∨ q = 1) : wr (fun c => s 89 (8 * n + 4 * q + c)) := fun c c0 c1 => by
  have := hw (4 * q + c) (by omega) (by omega)
  rw [wt_in (by omega) (by omega), show 8 * n + (4 * q + c) = 8 * n + 4 * q + c by omega] at this
  exact inR20 this
theorem sp_heldAt (ho : opk s k0 k1 R) (n0 : 0 ≤ n) (n6 : n ≤ 6) (hw : w8 (wt s n)) (w0 : 0 ≤ w) (w1 : w < 2) (kk : P (some (vI (if w = 0 then hA k0 (wt s n) else hB k1 (wt s n)))) s) : Cl X (d + 2) 222 [vR 77, vI n, vI w] s P := by
  obtain ⟨o1, o2, o3, o4, o5, o6, o7, o8⟩ := ho
  have : w = 0 ∨ w = 1 := by omega
  rcases this with rfl | rfl
  · rw [if_pos rfl] at kk
    refine t_X6_heldAt n0 n6 w0 w1 (by omega) (by omega) (by omega) (wt_wr hw (Or.inl rfl)) (PI kk (held_0 o1).symm)
  · rw [if_neg (by decide)] at kk
    refine t_X6_heldAt n0 n6 w0 w1 (by omega) (by omega) (by omega) (wt_wr hw (Or.inr rfl)) (PI kk (held_1 o2).symm)
/-- two opened -/
def qOp (s : m_St) (i j : Int) (s' : m_St) : Prop := (∀ c q, ¬ c = 88 → ¬ c = 89 → s' c q = s c q) ∧ s' 88 0 = s 83 (8 + 5 * i) ∧ s' 88 1 = s 83 (8 + 5 * j) ∧ (∀ c, 0 ≤ c → c < 4 → wt s' 0 c = s 83 (9 + 5 * i + c)) ∧ ∀ c, 0 ≤ c → c < 4 → wt s' 0 (4 + c) = s 83 (9 + 5 * j + c)
theorem sp_opens (i0 : 0 ≤ i) (i6 : i < 6) (j0 : 0 ≤ j) (j6 : j < 6) (kk : ∀ s', qOp s i j s' → P none s') : Cl X (d + 1) 220 [vR 77, vI i, vI j] s P := by
  apply t_X6_opens i0 i6 j0 j6 <;> intros
  all_goals first | omega | skip
  refine kk _ ⟨fun c q h1 h2 => by rw [upd_nc h2, upd_nc h2, upd_nc h2, upd_nc h2, upd_nc h2, upd_nc h2, upd_nc h2, upd_nc h2, upd_nc h1, upd_nc h1], ?_, ?_, fun c c0 c1 => ?_, fun c c0 c1 => ?_⟩
  · rw [upd_nc (by decide), upd_nc (by decide), upd_nc (by decide), upd_nc (by decide), upd_nc (by decide), upd_nc (by decide), upd_nc (by decide), upd_nc (by decide), upd_nj (by decide), upd_eq]
  · rw [upd_nc (by decide), upd_nc (by decide), upd_nc (by decide), upd_nc (by decide), upd_nc (by decide), upd_nc (by decide), upd_nc (by decide), upd_nc (by decide), upd_eq]
  · have : c = 0 ∨ c = 1 ∨ c = 2 ∨ c = 3 := by omega
    rw [wt_in c0 (by omega)]
    rcases this with rfl | rfl | rfl | rfl
    · rw [upd_nj (by decide), upd_nj (by decide), upd_nj (by decide), upd_nj (by decide), upd_nj (by decide), upd_nj (by decide), upd_nj (by decide), show (8 : Int) * 0 + 0 = 0 by decide, upd_eq]
      congr 1
      omega
    · rw [upd_nj (by decide), upd_nj (by decide), upd_nj (by decide), upd_nj (by decide), upd_nj (by decide), show (8 : Int) * 0 + 1 = 1 by decide, upd_eq]
      congr 1
      omega
    · rw [upd_nj (by decide), upd_nj (by decide), upd_nj (by decide), show (8 : Int) * 0 + 2 = 2 by decide, upd_eq]
      congr 1
      omega
    · rw [upd_nj (by decide), show (8 : Int) * 0 + 3 = 3 by decide, upd_eq]
      congr 1
      omega
  · have : c = 0 ∨ c = 1 ∨ c = 2 ∨ c = 3 := by omega
    rw [wt_in (by omega) (by omega)]
    rcases this with rfl | rfl | rfl | rfl
    · rw [upd_nj (by decide), upd_nj (by decide), upd_nj (by decide), upd_nj (by decide), upd_nj (by decide), upd_nj (by decide), show (8 : Int) * 0 + (4 + 0) = 4 by decide, upd_eq]
      congr 1
      omega
    · rw [upd_nj (by decide), upd_nj (by decide), upd_nj (by decide), upd_nj (by decide), show (8 : Int) * 0 + (4 + 1) = 5 by decide, upd_eq]
      congr 1
      omega
    · rw [upd_nj (by decide), upd_nj (by decide), show (8 : Int) * 0 + (4 + 2) = 6 by decide, upd_eq]
      congr 1
      omega
    · rw [show (8 : Int) * 0 + (4 + 3) = 7 by decide, upd_eq]
      congr 1
      omega
/-- weights behind a saying -/
def qGo (s : m_St) (n : Int) (w : Int → Int) (s' : m_St) : Prop := (∀ c q, ¬ (c = 89 ∧ 8 * n + 8 ≤ q ∧ q < 8 * n + 16) → s' c q = s c q) ∧ wt s' (n + 1) = w
theorem wt_utw {a : Int} {w : Int → Int} (hz : ∀ q, ¬ (0 ≤ q ∧ q < 8) → w q = 0) (a0 : 0 ≤ a) (a8 : a < 8) : ∀ q, ¬ (0 ≤ q ∧ q < 8) → utw k0 k1 R w a q = 0 := by
  intro q hq
  unfold utw
  rw [setf_o (by unfold ixw; split <;> omega)]
  exact hz q hq
theorem sp_goes (ho : opk s k0 k1 R) (n0 : 0 ≤ n) (n5 : n ≤ 5) (z0 : 0 ≤ z) (z8 : z < 8) (hw : w8 (wt s n)) (rf : inR f) (kk : ∀ s', qGo s n (if f = 0 then wt s n else utw k0 k1 R (wt s n) z) s' → P none s') : Cl X (d + 3) 223 [vR 77, vI n, vI z, vI f] s P := by
  obtain ⟨o1, o2, o3, o4, o5, o6, o7, o8⟩ := ho
  apply t_X6_goes n0 n5 z0 z8
  have loop : ∀ (m : Nat) (k : Int) (s1 : m_St), 0 ≤ k → k + m = 8 → (∀ c q, ¬ (c = 89 ∧ 8 * n + 8 ≤ q ∧ q < 8 * n + 16) → s1 c q = s c q) → (∀ q, 0 ≤ q → q < k → s1 89 (8 * n + 8 + q) = s 89 (8 * n + q)) → Rn X (d + 3) 223 3 [some (vR 77), some (vI n), some (vI z), some (vI f), some (vI k), none] [] s1 P := by
    intro m
    induction m with
    | zero =>
      intro k s1 kk0 km h1 h2
      have k8 : k = 8 := by omega
      subst k8
      have f0 : s1 88 0 = k0 := by rw [h1 88 0 (by omega)]; exact o1
      have f1 : s1 88 1 = k1 := by rw [h1 88 1 (by omega)]; exact o2
      have f38 : s1 38 5 = R := by rw [h1 38 5 (by omega)]; exact o7
      have f83 : s1 83 7 = s 83 7 := h1 83 7 (by omega)
      have ewn : wt s1 n = wt s n := by
        funext q
        unfold wt
        by_cases hq : 0 ≤ q ∧ q < 8
        · rw [if_pos hq, if_pos hq, h1 89 _ (by omega)]
        · rw [if_neg hq, if_neg hq]
      have hw1 : w8 (wt s1 n) := by rw [ewn]; exact hw
      have wt1 : ∀ q, 0 ≤ q → q < 8 → s1 89 (8 * n + 8 + q) = wt s n q := fun q q0 q1 => by rw [wt_in q0 q1]; exact h2 q q0 q1
      have stay : f = 0 → P none s1 := fun hf0 => by
        refine kk s1 ⟨h1, ?_⟩
        rw [if_pos hf0]
        funext q
        unfold wt
        by_cases hq : 0 ≤ q ∧ q < 8
        · rw [if_pos hq, if_pos hq, show 8 * (n + 1) + q = 8 * n + 8 + q by omega]
          exact h2 q hq.1 hq.2
        · rw [if_neg hq, if_neg hq]
      have hz4 : z / 4 = 0 ∨ z / 4 = 1 := by omega
      have ix : 8 * n + 8 + 4 * (1 - z / 4) + z % 4 = 8 * n + 8 + ixw z := by
        unfold ixw
        split <;> omega
      have ixr : 0 ≤ ixw z ∧ ixw z < 8 := by
        unfold ixw
        split <;> omega
      have hh : hset (fun c => s1 89 (8 * n + 4 * (1 - z / 4) + c)) (hf (s1 88 (1 - z / 4))) = if z < 4 then hB k1 (wt s n) else hA k0 (wt s n) := by
        rcases hz4 with e | e
        · rw [e, if_pos (by omega), show (1 : Int) - 0 = 1 by decide, held_1 f1, ewn]
        · rw [e, if_neg (by omega), show (1 : Int) - 1 = 0 by decide, held_0 f0, ewn]
      have hkd : s1 88 (1 - z / 4) = if z < 4 then k1 else k0 := by
        rcases hz4 with e | e
        · rw [e, if_pos (by omega), show (1 : Int) - 0 = 1 by decide, f1]
        · rw [e, if_neg (by omega), show (1 : Int) - 1 = 0 by decide, f0]
      have hwr : wr (fun c => s1 89 (8 * n + 4 * (1 - z / 4) + c)) := wt_wr hw1 (by omega)
      have hr0 : 0 ≤ (if z < 4 then hB k1 (wt s n) else hA k0 (wt s n)) ∧ (if z < 4 then hB k1 (wt s n) else hA k0 (wt s n)) < 16 := by
        split
        · exact hB_r _ _
        · exact hA_r _ _
      have hval : s1 89 (8 * n + 8 + 4 * (1 - z / 4) + z % 4) = wt s n (ixw z) := by rw [ix]; exact wt1 _ ixr.1 ixr.2
      have hmv : mv (s1 88 (1 - z / 4)) (hset (fun c => s1 89 (8 * n + 4 * (1 - z / 4) + c)) (hf (s1 88 (1 - z / 4)))) (s1 38 5) (z % 4) = if z < 4 then mv k1 (hB k1 (wt s n)) R (z % 4) else mv k0 (hA k0 (wt s n)) R (z % 4) := by
        rw [hh, hkd, f38]
        by_cases h4 : z < 4
        · rw [if_pos h4, if_pos h4, if_pos h4]
        · rw [if_neg h4, if_neg h4, if_neg h4]
      have mr : -1 ≤ (if z < 4 then mv k1 (hB k1 (wt s n)) R (z % 4) else mv k0 (hA k0 (wt s n)) R (z % 4)) ∧ (if z < 4 then mv k1 (hB k1 (wt s n)) R (z % 4) else mv k0 (hA k0 (wt s n)) R (z % 4)) ≤ 3 := by
        split <;> exact mv_r _ _ _ _
      have hwz := hw (ixw z) ixr.1 ixr.2
      have go : ¬ f = 0 → P none (m_upd s1 89 (8 * n + 8 + ixw z) (cl (wt s n (ixw z) + (if z < 4 then mv k1 (hB k1 (wt s n)) R (z % 4) else mv k0 (hA k0 (wt s n)) R (z % 4))))) := fun hf0 => by
        refine kk _ ⟨fun c q hq => by rw [upd_o2 (by omega)]; exact h1 c q hq, ?_⟩
        rw [if_neg hf0]
        funext q
        unfold utw setf
        by_cases hq : 0 ≤ q ∧ q < 8
        · rw [wt_in hq.1 hq.2, show 8 * (n + 1) + q = 8 * n + 8 + q by omega]
          by_cases hqz : q = ixw z
          · rw [if_pos hqz, hqz, upd_eq]
          · rw [if_neg hqz, upd_nj (by omega)]
            exact wt1 q hq.1 hq.2
        · rw [if_neg (show ¬ q = ixw z by omega)]
          unfold wt
          rw [if_neg hq, if_neg hq]
      have htr : tr (s1 38 5) (s1 83 7) := by rw [f38, f83]; exact o8
      have hkr : 0 ≤ s1 88 (1 - z / 4) ∧ s1 88 (1 - z / 4) < 6 := by rw [hkd]; split <;> omega
      rw [← hh] at hr0
      rw [← hmv, ← hval, ← ix] at go
      rw [← hmv] at mr
      rw [← hval] at hwz
      clear hmv hh hkd hval
      apply t_X6_goes_3 n0 n5 z0 z8 kk0 <;> intros
      all_goals first | exact stay (by assumption) | exact go (by assumption) | exact hwr | exact htr | exact hr0.1 | exact hr0.2 | exact hkr.1 | exact hkr.2 | omega
    | succ m ih =>
      intro k s1 kk0 km h1 h2
      have hx := ih (k + 1) (m_upd s1 89 (8 * n + 8 + k) (s1 89 (8 * n + k))) (by omega) (by omega) (fun c q hq => by rw [upd_o2 (by omega)]; exact h1 c q hq) (fun q q0 q1 => by
        by_cases hq : q = k
        · rw [hq, upd_eq, h1 89 _ (by omega)]
        · rw [upd_nj (by omega)]
          exact h2 q q0 (by omega))
      apply t_X6_goes_3 n0 n5 z0 z8 kk0 <;> intros
      all_goals first | exact hx | exact rf | omega
  exact loop 8 0 s (by omega) (by omega) (fun _ _ _ => rfl) (fun q q0 q1 => by omega)
/-- some number of a row is no saying -/
def nsy (s : m_St) (r : Int) : Prop := ∃ j, 0 ≤ j ∧ j < s 78 r ∧ ¬ (0 ≤ s 79 (40 * r + j) ∧ s 79 (40 * r + j) < 8)
theorem sp_areSayings (h0 : 0 ≤ r) (h6 : r < 6) (hr : rwM s r) (kk : ∀ v : Int, (v = 0 ∨ v = 1) → (v = 1 ↔ ∀ j, 0 ≤ j → j < s 78 r → 0 ≤ s 79 (40 * r + j) ∧ s 79 (40 * r + j) < 8) → P (some (vI v)) s) : Cl X (d + 1) 218 [vR 77, vI r] s P := by
  obtain ⟨w1, w2, w3⟩ := hr
  have loop : ∀ (m : Nat) (b k : Int), 0 ≤ k → (k + m = s 78 r ∨ (m = 0 ∧ k = 0 ∧ s 78 r = -1)) → ((b = 1 ∧ ∀ j, 0 ≤ j → j < k → 0 ≤ s 79 (40 * r + j) ∧ s 79 (40 * r + j) < 8) ∨ (b = 0 ∧ nsy s r)) → Rn X (d + 1) 218 4 [some (vR 77), some (vI r), some (vI b), some (vI k)] [] s P := by
    intro m
    induction m with
    | zero =>
      intro b k k0 km hb
      have hb01 : b = 0 ∨ b = 1 := by
        rcases hb with ⟨hb, _⟩ | ⟨hb, _⟩
        · exact Or.inr hb
        · exact Or.inl hb
      have fin := kk b hb01 (by
        rcases hb with ⟨hb, hj⟩ | ⟨hb, j, j0, j1, hj⟩
        · exact ⟨fun _ j j0 j1 => hj j j0 (by omega), fun _ => hb⟩
        · exact ⟨fun h1 => by omega, fun ha => absurd (ha j j0 j1) hj⟩)
      apply t_X6_areSayings_4 h0 h6 k0 <;> intros
      all_goals first | exact fin | exact hb01 | omega
    | succ m ih =>
      intro b k k0 km hb
      have hb01 : b = 0 ∨ b = 1 := by
        rcases hb with ⟨hb, _⟩ | ⟨hb, _⟩
        · exact Or.inr hb
        · exact Or.inl hb
      have wk := w3 k k0 (by omega)
      have bad0 : b = 0 → Rn X (d + 1) 218 4 [some (vR 77), some (vI r), some (vI 0), some (vI (k + 1))] [] s P := fun h0 => by
        refine ih 0 (k + 1) (by omega) (by omega) (Or.inr ⟨rfl, ?_⟩)
        rcases hb with ⟨hb, _⟩ | ⟨_, hj⟩
        · omega
        · exact hj
      have bad1 : ¬ (0 ≤ s 79 (40 * r + k) ∧ s 79 (40 * r + k) < 8) → Rn X (d + 1) 218 4 [some (vR 77), some (vI r), some (vI 0), some (vI (k + 1))] [] s P := fun h0 => ih 0 (k + 1) (by omega) (by omega) (Or.inr ⟨rfl, k, k0, by omega, h0⟩)
      have good : ¬ b = 0 → (0 ≤ s 79 (40 * r + k) ∧ s 79 (40 * r + k) < 8) → Rn X (d + 1) 218 4 [some (vR 77), some (vI r), some (vI 1), some (vI (k + 1))] [] s P := fun h0 hk => by
        refine ih 1 (k + 1) (by omega) (by omega) (Or.inl ⟨rfl, fun j j0 j1 => ?_⟩)
        rcases hb with ⟨_, hj⟩ | ⟨hb, _⟩
        · by_cases hjk : j = k
          · rw [hjk]; exact hk
          · exact hj j j0 (by omega)
        · exact absurd hb h0
      apply t_X6_areSayings_4 h0 h6 k0 <;> intros
      all_goals first | exact bad0 (by assumption) | (refine bad1 ?_; omega) | (refine good (by assumption) ?_; omega) | omega
  apply t_X6_areSayings h0 h6
  by_cases hz : s 78 r = -1
  · exact loop 0 1 0 (by omega) (by omega) (Or.inl ⟨rfl, fun j j0 j1 => by omega⟩)
  · exact loop (s 78 r).toNat 1 0 (by omega) (by omega) (Or.inl ⟨rfl, fun j j0 j1 => by omega⟩)
end SPTA
/-! the same, over the cells -/
def opS (s : m_St) : Prop := opk s (s 88 0) (s 88 1) (s 38 5)
def hW (s : m_St) (n w : Int) : Int := if w = 0 then hA (s 88 0) (wt s n) else hB (s 88 1) (wt s n)
theorem hW_r (s : m_St) (n w : Int) : 0 ≤ hW s n w ∧ hW s n w < 16 := by
  unfold hW
  split
  · exact hA_r _ _
  · exact hB_r _ _
theorem inR_hW (s : m_St) (n w : Int) : inR (hW s n w) := by have := hW_r s n w; omega
def uW (s : m_St) (n z : Int) : Int → Int := utw (s 88 0) (s 88 1) (s 38 5) (wt s n) z
def asM (s : m_St) (r : Int) : Prop := ∀ j, 0 ≤ j → j < s 78 r → 0 ≤ s 79 (40 * r + j) ∧ s 79 (40 * r + j) < 8
noncomputable def asv (s : m_St) (r : Int) : Int := pb (asM s r)
section SPTA2
variable {X : List Int32} {d : Nat} {s : m_St} {P : Option Value → m_St → Prop} {n w z f r : Int}
theorem sp_heldAtS (ho : opS s) (n0 : 0 ≤ n) (n6 : n ≤ 6) (hw : w8 (wt s n)) (w0 : 0 ≤ w) (w1 : w < 2) (kk : P (some (vI (hW s n w))) s) : Cl X (d + 2) 222 [vR 77, vI n, vI w] s P := sp_heldAt ho n0 n6 hw w0 w1 kk
theorem sp_goesT (ho : opS s) (n0 : 0 ≤ n) (n5 : n ≤ 5) (z0 : 0 ≤ z) (z8 : z < 8) (hw : w8 (wt s n)) (kk : ∀ s', qGo s n (uW s n z) s' → P none s') : Cl X (d + 3) 223 [vR 77, vI n, vI z, vI 1] s P := sp_goes ho n0 n5 z0 z8 hw (by decide) (fun s' h => kk s' (by rw [if_neg (by decide)] at h; exact h))
theorem sp_goesF (ho : opS s) (n0 : 0 ≤ n) (n5 : n ≤ 5) (z0 : 0 ≤ z) (z8 : z < 8) (hw : w8 (wt s n)) (rf : inR f) (kk : ∀ s', qGo s n (if f = 0 then wt s n else uW s n z) s' → P none s') : Cl X (d + 3) 223 [vR 77, vI n, vI z, vI f] s P := sp_goes ho n0 n5 z0 z8 hw rf kk
theorem sp_areSayingsV (h0 : 0 ≤ r) (h6 : r < 6) (hr : rwM s r) (kk : P (some (vI (asv s r))) s) : Cl X (d + 1) 218 [vR 77, vI r] s P := by
  refine sp_areSayings h0 h6 hr (fun v hv hi => PI kk ?_)
  unfold asv
  by_cases ha : asM s r
  · rw [pb_t ha, hi.mpr ha]
  · rw [pb_f ha]
    have : ¬ v = 1 := fun z => ha (hi.mp z)
    omega
theorem inR_asv (s : m_St) (r : Int) : inR (asv s r) := inR_pb _
end SPTA2
