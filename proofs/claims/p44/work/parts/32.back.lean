/-! going back: the first n deeds done anew -/
theorem lk_o {s : m_St} {g o k c j : Int} (h1 : ¬ c = g) (h2 : ¬ c = g + 1) : lk s g o k c j = s c j := by
  unfold lk
  rw [if_neg (fun z => h2 z.1), if_neg (fun z => h1 z.1), if_neg (fun z => h1 z.1)]
theorem lk_1 {s : m_St} {g o k : Int} : lk s g o k g 1 = k := by unfold lk; rw [if_neg (by omega), if_pos (by omega)]
theorem lk_w {s : m_St} {g o k c : Int} (h0 : 0 ≤ c) (h1 : c < 4) : lk s g o k (g + 1) c = s (o + 1) c := by unfold lk; rw [if_pos (by omega)]
def rb (s : m_St) : Nat → m_St
  | 0 => s
  | n + 1 => lk (rb s n) (44 + 4 * n) (42 + 4 * n) (rb s n (42 + 4 * n) 1)
theorem rb_up {s : m_St} {i : Int} (h : 0 ≤ i) : rb s (i + 1).toNat = lk (rb s i.toNat) (44 + 4 * i) (42 + 4 * i) (rb s i.toNat (42 + 4 * i) 1) := by
  rw [show (i + 1).toNat = i.toNat + 1 by omega]
  show lk (rb s i.toNat) (44 + 4 * (i.toNat : Int)) (42 + 4 * (i.toNat : Int)) (rb s i.toNat (42 + 4 * (i.toNat : Int)) 1) = _
  rw [Int.toNat_of_nonneg h]
theorem rb_o {s : m_St} {c j : Int} (h : ¬ (44 ≤ c ∧ c % 4 < 2)) : ∀ n : Nat, rb s n c j = s c j := by
  intro n
  induction n with
  | zero => rfl
  | succ n ih =>
    show lk (rb s n) (44 + 4 * n) (42 + 4 * n) (rb s n (42 + 4 * n) 1) c j = _
    rw [lk_o (by omega) (by omega)]
    exact ih
theorem rb_o2 {s : m_St} {c j : Int} (n : Nat) (h : ¬ (44 ≤ c ∧ c < 44 + 4 * n)) : rb s n c j = s c j := by
  induction n with
  | zero => rfl
  | succ n ih =>
    show lk (rb s n) (44 + 4 * n) (42 + 4 * n) (rb s n (42 + 4 * n) 1) c j = _
    rw [lk_o (by omega) (by omega)]
    exact ih (by omega)
/-- the guests at first are in order -/
def aok (s : m_St) : Prop := ∀ i, 0 ≤ i → i < s 38 3 → 0 ≤ s (42 + 4 * i) 1 ∧ s (42 + 4 * i) 1 < 6 ∧ ∀ c, 0 ≤ c → c < 4 → 0 ≤ s (42 + 4 * i + 1) c ∧ s (42 + 4 * i + 1) c ≤ 20
theorem rb_in {s : m_St} (ha : aok s) : ∀ n : Nat, (n : Int) ≤ s 38 3 → ∀ i : Int, 0 ≤ i → i < n → gok (rb s n) (44 + 4 * i) ∧ rb s n (44 + 4 * i) 1 = s (42 + 4 * i) 1 ∧ ∀ c, 0 ≤ c → c < 4 → rb s n (44 + 4 * i + 1) c = s (42 + 4 * i + 1) c := by
  intro n
  induction n with
  | zero => intro _ i h0 h1; omega
  | succ n ih =>
    intro hn i h0 h1
    have o1 : ∀ j, rb s n (42 + 4 * (n : Int)) j = s (42 + 4 * n) j := fun j => rb_o (by omega) n
    have o2 : ∀ j, rb s n (42 + 4 * (n : Int) + 1) j = s (42 + 4 * n + 1) j := fun j => rb_o (by omega) n
    obtain ⟨a1, a2, a3⟩ := ha n (by omega) (by omega)
    show gok (lk (rb s n) (44 + 4 * n) (42 + 4 * n) (rb s n (42 + 4 * n) 1)) (44 + 4 * i) ∧ lk (rb s n) (44 + 4 * n) (42 + 4 * n) (rb s n (42 + 4 * n) 1) (44 + 4 * i) 1 = _ ∧ ∀ c, 0 ≤ c → c < 4 → lk (rb s n) (44 + 4 * n) (42 + 4 * n) (rb s n (42 + 4 * n) 1) (44 + 4 * i + 1) c = _
    by_cases hi : i = n
    · subst hi
      refine ⟨gok_lk (by rw [o1]; exact a1) (by rw [o1]; exact a2) (fun c c0 c1 => by rw [o2]; exact a3 c c0 c1), by rw [lk_1, o1], fun c c0 c1 => by rw [lk_w c0 c1, o2]⟩
    · obtain ⟨b1, b2, b3⟩ := ih (by omega) i h0 (by omega)
      refine ⟨gok_cong (fun j => lk_o (by omega) (by omega)) (fun j => lk_o (by omega) (by omega)) b1, by rw [lk_o (by omega) (by omega)]; exact b2, fun c c0 c1 => by rw [lk_o (by omega) (by omega)]; exact b3 c c0 c1⟩
def up4 (s : m_St) (n : Int) : m_St := m_upd (m_upd (m_upd (m_upd s 38 6 (s 38 4)) 38 7 (-1)) 38 8 (-1)) 38 9 (max 0 (min n 40))
def prf (s : m_St) (ds : Int → Int) : Nat → m_St
  | 0 => s
  | k + 1 => pf (prf s ds k) (ds k)
theorem prf_up {s : m_St} {ds : Int → Int} {i : Int} (h : 0 ≤ i) : prf s ds (i + 1).toNat = pf (prf s ds i.toNat) (ds i) := by
  rw [show (i + 1).toNat = i.toNat + 1 by omega]
  show pf (prf s ds i.toNat) (ds (i.toNat : Int)) = _
  rw [Int.toNat_of_nonneg h]
def gb0 (s : m_St) (n : Int) : m_St := up4 (rb s (s 38 3).toNat) n
def gb (s : m_St) (n : Int) : m_St := prf (gb0 s n) (s 41) n.toNat
/-- the hut as it was told -/
def hbase (s : m_St) : Int → Int := fun j => if j = 0 then s 38 3 else if j = 1 ∨ j = 2 then s 38 4 else if 8 ≤ j then (if (j - 8) % 5 = 0 then s (42 + 4 * ((j - 8) / 5)) 1 else s (42 + 4 * ((j - 8) / 5) + 1) ((j - 8) % 5 - 1)) else 0
def bok (s : m_St) : Prop := 0 ≤ s 38 3 ∧ s 38 3 ≤ 6 ∧ 0 ≤ s 38 4 ∧ s 38 4 ≤ 40 ∧ aok s ∧ ∀ i, 0 ≤ i → i < 6 → gok s (44 + 4 * i)
theorem hbase_kind {s : m_St} {i : Int} (h : 0 ≤ i) : hbase s (8 + 5 * i) = s (42 + 4 * i) 1 := by
  unfold hbase
  rw [if_neg (by omega), if_neg (by omega), if_pos (by omega), if_pos (by omega), show (8 + 5 * i - 8) / 5 = i by omega]
theorem hbase_w {s : m_St} {i c : Int} (h : 0 ≤ i) (c0 : 0 ≤ c) (c1 : c < 4) : hbase s (9 + 5 * i + c) = s (42 + 4 * i + 1) c := by
  unfold hbase
  rw [if_neg (by omega), if_neg (by omega), if_pos (by omega), if_neg (by omega), show (9 + 5 * i + c - 8) / 5 = i by omega, show (9 + 5 * i + c - 8) % 5 - 1 = c by omega]
theorem hbase_ok {s : m_St} (h : bok s) : hok (hbase s) := by
  obtain ⟨b0, b1, b2, b3, b4, -⟩ := h
  refine ⟨b0, b1, b2, b3, b2, b3, Int.le_refl 0, b0, Int.le_refl 0, b0, Iff.rfl, fun i h0 h1 => ?_⟩
  obtain ⟨a1, a2, a3⟩ := b4 i h0 h1
  rw [hbase_kind h0]
  exact ⟨a1, a2, fun c c0 c1 => by rw [hbase_w h0 c0 c1]; exact a3 c c0 c1⟩
theorem gb0_rep {s : m_St} {n : Int} (h : bok s) : rep (gb0 s n) (hbase s) ∧ (∀ c j, ¬ hcell c j → gb0 s n c j = s c j) ∧ gb0 s n 38 9 = max 0 (min n 40) := by
  obtain ⟨b0, b1, b2, b3, b4, b5⟩ := h
  have hn : ((s 38 3).toNat : Int) = s 38 3 := Int.toNat_of_nonneg b0
  have o38 : ∀ j, rb s (s 38 3).toNat 38 j = s 38 j := fun j => rb_o (by omega) _
  have u : ∀ c j, ¬ c = 38 → gb0 s n c j = rb s (s 38 3).toNat c j := fun c j hc => by unfold gb0 up4; rw [upd_nc hc, upd_nc hc, upd_nc hc, upd_nc hc]
  have u38 : ∀ j, ¬ j = 6 → ¬ j = 7 → ¬ j = 8 → ¬ j = 9 → gb0 s n 38 j = s 38 j := fun j h6 h7 h8 h9 => by unfold gb0 up4; rw [upd_nj h9, upd_nj h8, upd_nj h7, upd_nj h6, o38]
  have in_ := rb_in b4 (s 38 3).toNat (by omega)
  refine ⟨⟨by rw [u38 3 (by omega) (by omega) (by omega) (by omega)]; rfl, ?_, by rw [u38 4 (by omega) (by omega) (by omega) (by omega)]; rfl, ?_, ?_, fun i h0 h6 => ?_, fun i h0 h1 => ?_⟩, fun c j hc => ?_, ?_⟩
  · unfold gb0 up4
    rw [upd_nj (by omega), upd_nj (by omega), upd_nj (by omega), upd_eq, o38]
    rfl
  · unfold gb0 up4
    rw [upd_nj (by omega), upd_nj (by omega), upd_eq]
    rfl
  · unfold gb0 up4
    rw [upd_nj (by omega), upd_eq]
    rfl
  · refine gok_cong (s := rb s (s 38 3).toNat) (fun j => u _ _ (by omega)) (fun j => u _ _ (by omega)) ?_
    by_cases hi : i < s 38 3
    · exact (in_ i h0 (by omega)).1
    · exact gok_cong (s := s) (fun j => rb_o2 _ (by omega)) (fun j => rb_o2 _ (by omega)) (b5 i h0 h6)
  · have h1 : i < s 38 3 := h1
    obtain ⟨-, q1, q2⟩ := in_ i h0 (by omega)
    refine ⟨by rw [u _ _ (by omega), q1, hbase_kind h0], fun c c0 c1 => by rw [u _ _ (by omega), q2 c c0 c1, hbase_w h0 c0 c1]⟩
  · unfold hcell at hc
    by_cases h38 : c = 38
    · subst h38
      exact u38 j (by omega) (by omega) (by omega) (by omega)
    · rw [u c j h38]
      by_cases h2 : 44 ≤ c ∧ c % 4 < 2
      · exact rb_o2 _ (by omega)
      · exact rb_o h2 _
  · unfold gb0 up4
    exact upd_eq
theorem pf_9 {s : m_St} {a : Int} (hr : a < 8 → 0 ≤ s 38 7 ∧ 0 ≤ s 38 8) : pf s a 38 9 = s 38 9 := by
  unfold pf
  split
  · next h8 =>
    have := hr h8
    rw [upd_nj (by omega), wg_o (by split <;> omega) (by split <;> omega)]
  · split
    · exact upd_nj (by omega)
    · rw [upd_nj (by omega), upd_nj (by omega)]
theorem prf_rep {s : m_St} {h : Int → Int} {ds : Int → Int} (hr : rep s h) (hh : hok h) {n : Nat} (hd : ∀ k : Nat, k < n → dok (hst (s 38 5) h ds k) (ds k)) : ∀ k : Nat, k ≤ n → rep (prf s ds k) (hst (s 38 5) h ds k) ∧ (∀ c j, ¬ hcell c j → prf s ds k c j = s c j) ∧ prf s ds k 38 9 = s 38 9 := by
  intro k
  induction k with
  | zero => intro _; exact ⟨hr, fun _ _ _ => rfl, rfl⟩
  | succ k ih =>
    intro hk
    obtain ⟨i1, i2, i3⟩ := ih (by omega)
    have hok_k := hst_ok hh hd k (by omega)
    have hd_k := hd k (by omega)
    have e5 : prf s ds k 38 5 = s 38 5 := i2 38 5 (by unfold hcell; omega)
    obtain ⟨r3, r6, r4, r7, r8, -, -⟩ := id i1
    have hrg : ds k < 8 → 0 ≤ prf s ds k 38 7 ∧ prf s ds k 38 7 < 6 ∧ 0 ≤ prf s ds k 38 8 ∧ prf s ds k 38 8 < 6 := fun h8 => by
      have q1 := hd_k.2.2.1 h8
      obtain ⟨p0, p1, p2, p3, p4, p5, p6, p7, p8, p9, p10, -⟩ := hok_k
      omega
    refine ⟨?_, fun c j hc => ?_, ?_⟩
    · have := rep_pf i1 hok_k hd_k
      rw [e5] at this
      exact this
    · show pf (prf s ds k) (ds k) c j = _
      rw [pf_o hd_k.1 hrg hc]
      exact i2 c j hc
    · show pf (prf s ds k) (ds k) 38 9 = _
      rw [pf_9 (fun h8 => ⟨(hrg h8).1, (hrg h8).2.2.1⟩)]
      exact i3
/-- n deeds that lie in the hut can be done from the start on -/
def gdok (s : m_St) (n : Int) : Prop := ∀ k : Nat, (k : Int) < n → dok (hst (s 38 5) (hbase s) (s 41) k) (s 41 k)
theorem gb_rep {s : m_St} {n : Int} (h : bok s) (n0 : 0 ≤ n) (n4 : n ≤ 40) (hd : gdok s n) : rep (gb s n) (hst (s 38 5) (hbase s) (s 41) n.toNat) ∧ (∀ c j, ¬ hcell c j → gb s n c j = s c j) ∧ gb s n 38 9 = n := by
  obtain ⟨g1, g2, g3⟩ := gb0_rep (n := n) h
  have e5 : gb0 s n 38 5 = s 38 5 := g2 38 5 (by unfold hcell; omega)
  have := prf_rep g1 (hbase_ok h) (ds := s 41) (n := n.toNat) (fun k hk => by rw [e5]; exact hd k (by omega)) n.toNat (Nat.le_refl _)
  rw [e5] at this
  refine ⟨this.1, fun c j hc => ?_, ?_⟩
  · show prf (gb0 s n) (s 41) n.toNat c j = _
    rw [this.2.1 c j hc]
    exact g2 c j hc
  · show prf (gb0 s n) (s 41) n.toNat 38 9 = _
    rw [this.2.2, g3]
    omega
theorem sp_goBack {X : m_X} {d : Nat} {s : m_St} {P : Option Value → m_St → Prop} {n : Int} (h : bok s) (n0 : 0 ≤ n) (n4 : n ≤ 40) (hd : gdok s n) (kk : P none (gb s n)) : Cl X (d + 4) 55 [vR 38, vI n] s P := by
  obtain ⟨b0, b1, b2, b3, b4, b5⟩ := id h
  have hn : ((s 38 3).toNat : Int) = s 38 3 := Int.toNat_of_nonneg b0
  obtain ⟨g1, g2, g3⟩ := gb0_rep (n := n) h
  have e5 : gb0 s n 38 5 = s 38 5 := g2 38 5 (by unfold hcell; omega)
  have hpr := prf_rep g1 (hbase_ok h) (ds := s 41) (n := n.toNat) (fun k hk => by rw [e5]; exact hd k (by omega))
  refine t_X1_goBack ?_
  -- the second loop
  have two : Rn X (d + 4) 55 74 [some (vR 38), some (vI n), some (vI 0)] [] (gb0 s n) P := by
    refine up_loop (fun i => Rn X (d + 4) 55 74 [some (vR 38), some (vI n), some (vI i)] [] (prf (gb0 s n) (s 41) i.toNat) P) n n0 ?_ ?_
    · intro i hi hin hnext
      obtain ⟨p1, p2, p3⟩ := hpr i.toNat (by omega)
      have e9 : prf (gb0 s n) (s 41) i.toNat 38 9 = n := by rw [p3, g3]; omega
      have e41 : prf (gb0 s n) (s 41) i.toNat 41 i = s 41 i := by rw [p2 41 i (by unfold hcell; omega), g2 41 i (by unfold hcell; omega)]
      have hdk := hd i.toNat (by omega)
      rw [Int.toNat_of_nonneg hi] at hdk
      have hok_k : hok (hst (s 38 5) (hbase s) (s 41) i.toNat) := hst_ok (hbase_ok h) (n := n.toNat) (fun k hk => hd k (by omega)) i.toNat (by omega)
      rw [e5] at p1
      obtain ⟨r3, r6, r4, r7, r8, r9, -⟩ := id p1
      rw [prf_up hi] at hnext
      refine t_X1_goBack_74 hi (by omega) (by omega) (by omega) (by omega) (fun _ => by rw [e41]; exact hdk.1) (fun _ => by rw [e41]; have := hdk.1; have := hdk.2.1; omega) (fun _ h8 => ?_) (fun _ _ => r9) (fun _ => ?_)
      · rw [e41] at h8
        have q1 := hdk.2.2.1 h8
        obtain ⟨q0, q1', q2, q3, q4, q5, q6, q7, q8, q9, q10, -⟩ := hok_k
        omega
      · rw [e41]
        exact hnext
    · obtain ⟨p1, p2, p3⟩ := hpr n.toNat (Nat.le_refl _)
      have e9 : prf (gb0 s n) (s 41) n.toNat 38 9 = n := by rw [p3, g3]; omega
      exact t_X1_goBack_74 n0 (by omega) (by omega) (fun _ => kk) (by omega) (by omega) (by omega) (by omega) (by omega) (by omega)
  refine up_loop (fun i => Rn X (d + 4) 55 2 [some (vR 38), some (vI n), some (vI i)] [] (rb s i.toNat) P) (s 38 3) b0 ?_ ?_
  · intro i hi hin hnext
    have o38 : rb s i.toNat 38 3 = s 38 3 := rb_o (by omega) _
    have o1 : rb s i.toNat (42 + 4 * i) 1 = s (42 + 4 * i) 1 := rb_o (by omega) _
    obtain ⟨a1, a2, a3⟩ := b4 i hi hin
    rw [rb_up hi] at hnext
    refine t_X1_goBack_2 hi (by omega) (by omega) (by omega) (by omega) (by omega) (by omega) (by omega) (by omega) (fun _ => ?_) (fun _ => hnext)
    intro c c0 c1
    rw [rb_o (by omega)]
    have := a3 c c0 c1
    omega
  · have o38 : ∀ j, rb s (s 38 3).toNat 38 j = s 38 j := fun j => rb_o (by omega) _
    have e3 := o38 3
    refine t_X1_goBack_2 b0 (by omega) (by omega) (by omega) (by omega) (fun _ => two) (by omega) (by omega) (by omega) (by omega) (by omega)
