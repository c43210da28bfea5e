/-! the hut of the class and the law's own going, side by side -/
def hL (s : m_St) (n l w a : Int) : Int → Int := fun j => if j = 0 then n else if j = 1 then l else if j = 2 then w else if j = 5 then (if a = 0 then 0 else s 79 0 + 1) else if j = 6 then (if a = 0 then 0 else s 79 1 + 1) else if 8 ≤ j then s 78 (j - 8) else 0
theorem hL_8 {s : m_St} {n l w a j : Int} (h : 8 ≤ j) : hL s n l w a j = s 78 (j - 8) := by
  unfold hL
  rw [if_neg (by omega), if_neg (by omega), if_neg (by omega), if_neg (by omega), if_neg (by omega), if_pos h]
theorem hL_0 {s : m_St} {n l w a : Int} : hL s n l w a 0 = n := rfl
theorem hL_1 {s : m_St} {n l w a : Int} : hL s n l w a 1 = l := rfl
theorem hL_2 {s : m_St} {n l w a : Int} : hL s n l w a 2 = w := rfl
theorem hL_5 {s : m_St} {n l w a : Int} : hL s n l w a 5 = if a = 0 then 0 else s 79 0 + 1 := rfl
theorem hL_6 {s : m_St} {n l w a : Int} : hL s n l w a 6 = if a = 0 then 0 else s 79 1 + 1 := rfl
theorem hL_cong {s t : m_St} {n l w a : Int} (e8 : ∀ j, t 78 j = s 78 j) (e9 : ∀ j, t 79 j = s 79 j) : hL t n l w a = hL s n l w a := by
  funext j
  unfold hL
  rw [e8, e9, e9]
theorem hL_hld {s : m_St} {n l w a i : Int} (h : 0 ≤ i) : hld (hL s n l w a) i = hA s i := by
  unfold hld hA
  rw [hL_8 (by omega), show 8 + 5 * i - 8 = 5 * i by omega]
  refine hset_cong fun c c0 c1 => ?_
  show hL s n l w a (9 + 5 * i + c) = s 78 (5 * i + 1 + c)
  rw [hL_8 (by omega), show 9 + 5 * i + c - 8 = 5 * i + 1 + c by omega]
def Kc (s : m_St) (w m n l a : Int) : Prop := 2 ≤ n ∧ n ≤ 6 ∧ 0 ≤ w ∧ w ≤ 40 ∧ 0 ≤ l ∧ l ≤ w ∧ (a = 0 ∨ a = 1) ∧ 0 ≤ s 79 0 ∧ s 79 0 < n ∧ 0 ≤ s 79 1 ∧ s 79 1 < n ∧ 0 ≤ m ∧ m ≤ 5 ∧ gL s n ∧ pL_ s m ∧ trL (s 38 5) (s 77) m.toNat
/-- the deeds of the class: how many, how many sayings -/
def Kd (s : m_St) (e f : Int) : Prop := s 38 9 = e ∧ 0 ≤ e ∧ syd s = f ∧ 0 ≤ f ∧ f ≤ e ∧ ∀ i, 0 ≤ i → i < e → 0 ≤ s 41 i ∧ s 41 i < 45
def K (s : m_St) (w m n l e f a : Int) : Prop := rep s (hL s n l w a) ∧ Kc s w m n l a ∧ Kd s e f
theorem gL_cong {s t : m_St} {n : Int} (e8 : ∀ j, t 78 j = s 78 j) (h : gL s n) : gL t n := fun i i0 i1 => by
  obtain ⟨a1, a2, a3⟩ := h i i0 i1
  rw [e8]
  refine ⟨a1, a2, fun c c0 c1 => ?_⟩
  rw [e8]
  exact a3 c c0 c1
theorem pL_cong {s t : m_St} {m : Int} (e7 : ∀ j, t 77 j = s 77 j) (h : pL_ s m) : pL_ t m := fun i i0 i1 => by
  rw [e7, e7]
  exact h i i0 i1
theorem trL_cong {R : Int} {f g : Int → Int} {m : Nat} (e : ∀ j, g j = f j) (h : trL R f m) : trL R g m := by
  rw [show g = f from funext e]
  exact h
theorem Kc.hok {s : m_St} {w m n l a : Int} (h : Kc s w m n l a) : hok (hL s n l w a) := by
  obtain ⟨n2, n6, w0, w4, l0, lw, a01, u0, u1, v0, v1, m0, m5, g, p, t⟩ := h
  refine ⟨by rw [hL_0]; omega, by rw [hL_0]; omega, by rw [hL_1]; omega, by rw [hL_1]; omega, by rw [hL_2]; omega, by rw [hL_2]; omega, ?_, ?_, ?_, ?_, ?_, fun i i0 i1 => ?_⟩
  · rw [hL_5]; split <;> omega
  · rw [hL_5, hL_0]; split <;> omega
  · rw [hL_6]; split <;> omega
  · rw [hL_6, hL_0]; split <;> omega
  · rw [hL_5, hL_6]
    constructor
    · intro h; split at h <;> split <;> omega
    · intro h; split at h <;> split <;> omega
  · rw [hL_0] at i1
    obtain ⟨b1, b2, b3⟩ := g i i0 i1
    rw [hL_8 (by omega), show 8 + 5 * i - 8 = 5 * i by omega]
    refine ⟨b1, b2, fun c c0 c1 => ?_⟩
    rw [hL_8 (by omega), show 9 + 5 * i + c - 8 = 5 * i + 1 + c by omega]
    exact b3 c c0 c1
/-- cells that matter here -/
def uK (c : Int) : Prop := (38 ≤ c ∧ c ≤ 65) ∨ (77 ≤ c ∧ c ≤ 79)
theorem K_cong {s t : m_St} {w m n l e f a : Int} (q : ∀ c j, uK c → t c j = s c j) (h : K s w m n l e f a) : K t w m n l e f a := by
  obtain ⟨hr, hc, hd⟩ := h
  have e8 : ∀ j, t 78 j = s 78 j := fun j => q 78 j (by unfold uK; omega)
  have e9 : ∀ j, t 79 j = s 79 j := fun j => q 79 j (by unfold uK; omega)
  have e7 : ∀ j, t 77 j = s 77 j := fun j => q 77 j (by unfold uK; omega)
  have e38 : ∀ j, t 38 j = s 38 j := fun j => q 38 j (by unfold uK; omega)
  have e41 : ∀ j, t 41 j = s 41 j := fun j => q 41 j (by unfold uK; omega)
  refine ⟨?_, ?_, ?_⟩
  · rw [hL_cong e8 e9]
    obtain ⟨r3, r6, r4, r7, r8, rg, rw_⟩ := hr
    unfold rep
    rw [e38, e38, e38, e38, e38]
    refine ⟨r3, r6, r4, r7, r8, fun i i0 i6 => gok_cong (fun j => q _ j (by unfold uK; omega)) (fun j => q _ j (by unfold uK; omega)) (rg i i0 i6), fun i i0 i1 => ?_⟩
    have i6 : i < 6 := by rw [hL_0] at i1; have := hc.2.1; omega
    obtain ⟨b1, b2⟩ := rw_ i i0 i1
    rw [q (44 + 4 * i) 1 (by unfold uK; omega)]
    refine ⟨b1, fun c c0 c1 => ?_⟩
    rw [q (44 + 4 * i + 1) c (by unfold uK; omega)]
    exact b2 c c0 c1
  · obtain ⟨n2, n6, w0, w4, l0, lw, a01, u0, u1, v0, v1, m0, m5, g, p, tr_⟩ := hc
    unfold Kc
    rw [e9, e9, e38]
    exact ⟨n2, n6, w0, w4, l0, lw, a01, u0, u1, v0, v1, m0, m5, gL_cong e8 g, pL_cong e7 p, trL_cong e7 tr_⟩
  · unfold Kd syd at hd ⊢
    rw [e38]
    rw [show (fun i : Int => if t 41 i < 8 then (1 : Int) else 0) = fun i => if s 41 i < 8 then 1 else 0 from funext fun i => by rw [e41]]
    obtain ⟨d1, d2, d3, d4, d5, d6⟩ := hd
    exact ⟨d1, d2, d3, d4, d5, fun i i0 i1 => by rw [e41]; exact d6 i i0 i1⟩
theorem sm_congK {f g : Int → Int} : ∀ n : Nat, (∀ k : Nat, k < n → f k = g k) → sm f n = sm g n := by
  intro n
  induction n with
  | zero => intro _; rfl
  | succ n ih =>
    intro h
    show sm f n + f (n : Int) = sm g n + g (n : Int)
    rw [ih (fun k hk => h k (by omega)), h n (by omega)]
/-- a deed of the class -/
theorem acs_r {s : m_St} {h : Int → Int} {d : Int} (hr : rep s h) (hh : hok h) (hd : dok h d) : rep (acs s d) (stp (s 38 5) h d) ∧ (∀ c j, ¬ hcell c j → ¬ (c = 41 ∧ j = s 38 9) → acs s d c j = s c j) ∧ acs s d 38 9 = s 38 9 + 1 ∧ acs s d 41 (s 38 9) = d := by
  have hd0 := hd.1
  have u1 : ∀ c j, ¬ (c = 41 ∧ j = s 38 9) → ¬ (c = 38 ∧ j = 9) → m_upd (m_upd s 41 (s 38 9) d) 38 9 (s 38 9 + 1) c j = s c j := fun c j h1 h2 => by rw [upd_o2 h2, upd_o2 h1]
  have rr : rep (m_upd (m_upd s 41 (s 38 9) d) 38 9 (s 38 9 + 1)) h := by
    unfold rep at hr ⊢
    rw [u1 38 3 (by omega) (by omega), u1 38 6 (by omega) (by omega), u1 38 4 (by omega) (by omega), u1 38 7 (by omega) (by omega), u1 38 8 (by omega) (by omega)]
    obtain ⟨b1, b2, b3, b4, b5, b6, b7⟩ := hr
    refine ⟨b1, b2, b3, b4, b5, fun i i0 i6 => gok_cong (fun j => u1 _ _ (by omega) (by omega)) (fun j => u1 _ _ (by omega) (by omega)) (b6 i i0 i6), fun i i0 i1 => ?_⟩
    have i6 : i < 6 := by have := hh.2.1; omega
    obtain ⟨y1, y2⟩ := b7 i i0 i1
    rw [u1 (44 + 4 * i) 1 (by omega) (by omega)]
    refine ⟨y1, fun c c0 c1 => ?_⟩
    rw [u1 (44 + 4 * i + 1) c (by omega) (by omega)]
    exact y2 c c0 c1
  have ru : d < 8 → 0 ≤ (m_upd (m_upd s 41 (s 38 9) d) 38 9 (s 38 9 + 1)) 38 7 ∧ (m_upd (m_upd s 41 (s 38 9) d) 38 9 (s 38 9 + 1)) 38 7 < 6 ∧ 0 ≤ (m_upd (m_upd s 41 (s 38 9) d) 38 9 (s 38 9 + 1)) 38 8 ∧ (m_upd (m_upd s 41 (s 38 9) d) 38 9 (s 38 9 + 1)) 38 8 < 6 := fun h8 => by
    rw [rr.2.2.2.1, rr.2.2.2.2.1]
    obtain ⟨k1, k2, k3, k4, k5, k6, k7, k8, k9, k10, k11, k12⟩ := hh
    have := (hd.2.2.1 h8).1
    omega
  have rp := rep_pf rr hh hd
  rw [u1 38 5 (by omega) (by omega)] at rp
  refine ⟨rp, fun c j h1 h2 => ?_, ?_, ?_⟩
  · show pf _ d c j = _
    rw [pf_o hd0 ru h1, u1 c j h2 (by unfold hcell at h1; omega)]
  · show pf _ d 38 9 = _
    rw [pf_9 (fun h8 => ⟨(ru h8).1, (ru h8).2.2.1⟩), upd_eq]
  · show pf _ d 41 _ = _
    rw [pf_o hd0 ru (by unfold hcell; omega), upd_nc (by decide), upd_eq]
theorem Kd_acs {s t : m_St} {e f d : Int} (h : Kd s e f) (h9 : t 38 9 = s 38 9 + 1) (hn : t 41 (s 38 9) = d) (ho : ∀ j, ¬ j = s 38 9 → t 41 j = s 41 j) (d0 : 0 ≤ d) (d4 : d < 45) : Kd t (e + 1) (if d < 8 then f + 1 else f) := by
  obtain ⟨d1, d2, d3, d5, d6, d7⟩ := h
  unfold syd at d3
  rw [d1] at d3
  have hs : syd t = if d < 8 then f + 1 else f := by
    unfold syd
    rw [h9, d1, sm_up d2]
    rw [show sm (fun i => if t 41 i < 8 then (1 : Int) else 0) e.toNat = f by
      rw [← d3]
      refine sm_congK _ fun k hk => ?_
      show (if t 41 (k : Int) < 8 then (1 : Int) else 0) = if s 41 (k : Int) < 8 then 1 else 0
      rw [ho (k : Int) (by omega)]]
    rw [d1] at hn
    rw [hn]
    split <;> omega
  refine ⟨by omega, by omega, hs, by split <;> omega, by split <;> omega, fun i i0 i1 => ?_⟩
  by_cases hi : i = s 38 9
  · rw [hi, hn]; exact ⟨d0, d4⟩
  · rw [ho i hi]; exact d7 i i0 (by omega)
