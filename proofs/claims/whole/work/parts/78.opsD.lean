/-! calls side by side: guests -/
theorem rep_hj {s : m_St} {h h' : Int → Int} (e : ∀ j, hj (h 0) j → h' j = h j) (hh : hok h) (hr : rep s h) : rep s h' := by
  have h06 := hh.2.1
  have e0 := e 0 (by unfold hj; omega)
  unfold rep at hr ⊢
  rw [e0, e 1 (by unfold hj; omega), e 2 (by unfold hj; omega), e 5 (by unfold hj; omega), e 6 (by unfold hj; omega)]
  obtain ⟨a1, a2, a3, a4, a5, a6, a7⟩ := hr
  refine ⟨a1, a2, a3, a4, a5, a6, fun i i0 i1 => ?_⟩
  obtain ⟨b1, b2⟩ := a7 i i0 i1
  rw [e (8 + 5 * i) (by unfold hj; omega)]
  refine ⟨b1, fun c c0 c1 => ?_⟩
  rw [e (9 + 5 * i + c) (by unfold hj; omega)]
  exact b2 c c0 c1
theorem hok_hj {h h' : Int → Int} (e : ∀ j, hj (h 0) j → h' j = h j) (hh : hok h) : hok h' := by
  unfold hok at hh ⊢
  rw [e 0 (by unfold hj; omega), e 1 (by unfold hj; omega), e 2 (by unfold hj; omega), e 5 (by unfold hj; omega), e 6 (by unfold hj; omega)]
  obtain ⟨a1, a2, a3, a4, a5, a6, a7, a8, a9, a10, a11, a12⟩ := hh
  refine ⟨a1, a2, a3, a4, a5, a6, a7, a8, a9, a10, a11, fun i i0 i1 => ?_⟩
  rw [e (8 + 5 * i) (by unfold hj; omega)]
  obtain ⟨b1, b2, b3⟩ := a12 i i0 i1
  refine ⟨b1, b2, fun c c0 c1 => ?_⟩
  rw [e (9 + 5 * i + c) (by unfold hj; omega)]
  exact b3 c c0 c1
/-- the hut of the class is the hut of the reference -/
def Vw (s : m_St) : Prop := rep s (s 83) ∧ mok s
theorem Jh_view {s : m_St} (h : Jh s) : Vw s := by
  obtain ⟨hb, hm, hr⟩ := h
  obtain ⟨n0, n4, m3, m4, mt, hd, hv, hn⟩ := hm
  have hbo := hbase_ok hb
  have hd' : ∀ k : Nat, k < (s 38 9).toNat → dok (hst (s 38 5) (hbase s) (s 41) k) (s 41 k) := fun k hk => hd k (by omega)
  have hho := hst_ok hbo hd' _ (Nat.le_refl _)
  have h0 := hst_k hbo hd' (j := 0) (Or.inl rfl) _ (Nat.le_refl _)
  have e : ∀ j, hj (hst (s 38 5) (hbase s) (s 41) (s 38 9).toNat 0) j → s 83 j = hst (s 38 5) (hbase s) (s 41) (s 38 9).toNat j := fun j hjj => by
    rw [h0] at hjj
    exact hv j hjj
  exact ⟨rep_hj e hho hr, hok_hj e hho, mt⟩
theorem J.v {s : m_St} (h : J s) : Vw s := Jh_view h.2.2.2.1
theorem Vw.h {s : m_St} (h : Vw s) {i : Int} (h0 : 0 ≤ i) (h1 : i < s 83 0) : s (44 + 4 * i) 2 = hld (s 83) i := rep_h h.1 h.2.1 h0 h1
theorem bt_m1 : ∀ k : Fin 32, bt (-1) k = true := by decide +kernel
def b01 (b : Bool) : Int := if b = true then 1 else 0
theorem bc_b0 : ∀ a : Fin 16, bc ((a : Nat) : Int) = b01 (bt ((a : Nat) : Int) 0) + b01 (bt ((a : Nat) : Int) 1) + b01 (bt ((a : Nat) : Int) 2) + b01 (bt ((a : Nat) : Int) 3) := by decide +kernel
theorem bc_b {a : Int} (h0 : 0 ≤ a) (h1 : a < 16) : bc a = b01 (bt a 0) + b01 (bt a 1) + b01 (bt a 2) + b01 (bt a 3) := by
  have e : ((a.toNat : Nat) : Int) = a := by omega
  have := bc_b0 ⟨a.toNat, by omega⟩
  rw [show (((⟨a.toNat, by omega⟩ : Fin 16) : Nat) : Int) = a from e] at this
  exact this
theorem anx0 : ∀ a b : Fin 16, 0 ≤ iAnd ((a : Nat) : Int) (iXor ((b : Nat) : Int) (-1)) ∧ iAnd ((a : Nat) : Int) (iXor ((b : Nat) : Int) (-1)) < 16 := by decide +kernel
theorem anx_r {a b : Int} (h0 : 0 ≤ a) (h1 : a < 16) (g0 : 0 ≤ b) (g1 : b < 16) : 0 ≤ iAnd a (iXor b (-1)) ∧ iAnd a (iXor b (-1)) < 16 := by
  have e : ((a.toNat : Nat) : Int) = a := by omega
  have e2 : ((b.toNat : Nat) : Int) = b := by omega
  have := anx0 ⟨a.toNat, by omega⟩ ⟨b.toNat, by omega⟩
  rw [show (((⟨a.toNat, by omega⟩ : Fin 16) : Nat) : Int) = a from e, show (((⟨b.toNat, by omega⟩ : Fin 16) : Nat) : Int) = b from e2] at this
  exact this
theorem xr0 : ∀ a b : Fin 16, 0 ≤ iXor ((a : Nat) : Int) ((b : Nat) : Int) ∧ iXor ((a : Nat) : Int) ((b : Nat) : Int) < 16 := by decide +kernel
theorem iXor_r {a b : Int} (h0 : 0 ≤ a) (h1 : a < 16) (g0 : 0 ≤ b) (g1 : b < 16) : 0 ≤ iXor a b ∧ iXor a b < 16 := by
  have e : ((a.toNat : Nat) : Int) = a := by omega
  have e2 : ((b.toNat : Nat) : Int) = b := by omega
  have := xr0 ⟨a.toNat, by omega⟩ ⟨b.toNat, by omega⟩
  rw [show (((⟨a.toNat, by omega⟩ : Fin 16) : Nat) : Int) = a from e, show (((⟨b.toNat, by omega⟩ : Fin 16) : Nat) : Int) = b from e2] at this
  exact this
theorem hsb0 : ∀ p q u v : Bool, ∀ k : Fin 4, bt (b01 p + (if q = true then 2 else 0) + (if u = true then 4 else 0) + (if v = true then 8 else 0)) k = (match k with | 0 => p | 1 => q | 2 => u | 3 => v) := by decide +kernel
theorem hset_bt {f : Int → Int} {t : Int} {k : Nat} (hk : k < 4) : bt (hset f t) k = decide (t ≤ f k) := by
  have h := hsb0 (decide (t ≤ f 0)) (decide (t ≤ f 1)) (decide (t ≤ f 2)) (decide (t ≤ f 3))
  have e : b01 (decide (t ≤ f 0)) + (if decide (t ≤ f 1) = true then 2 else 0) + (if decide (t ≤ f 2) = true then 4 else 0) + (if decide (t ≤ f 3) = true then 8 else 0) = hset f t := by
    unfold hset b01
    simp only [decide_eq_true_eq]
  rw [e] at h
  have : k = 0 ∨ k = 1 ∨ k = 2 ∨ k = 3 := by omega
  rcases this with rfl | rfl | rfl | rfl
  · exact h 0
  · exact h 1
  · exact h 2
  · exact h 3
theorem b01_d {p : Prop} [Decidable p] : b01 (decide p) = if p then 1 else 0 := by
  unfold b01
  by_cases h : p
  · rw [if_pos h, decide_eq_true h]; rfl
  · rw [if_neg h, decide_eq_false h]; rfl
/-- what each claim counts for a mark -/
def mkw (h : Int → Int) (R i k : Int) : Int → Int := fun c => if k = 1 then (if mv (h (8 + 5 * i)) (hld h i) R c = 0 then 1 else 0) else if k = 2 then mv (h (8 + 5 * i)) (hld h i) R c else if k = 3 then (if iAnd (iShr (hld h i) c) 1 = 1 then 0 else 1) else if k = 4 then (if 5 ≤ h (9 + 5 * i + c) ∧ h (9 + 5 * i + c) ≤ 6 then 1 else 0) else (if 3 ≤ h (9 + 5 * i + c) ∧ h (9 + 5 * i + c) ≤ 4 then 1 else 0)
theorem mkw_r {h : Int → Int} {R i k c : Int} : -1 ≤ mkw h R i k c ∧ mkw h R i k c ≤ 3 := by
  have := mv_r (h (8 + 5 * i)) (hld h i) R c
  unfold mkw
  omega
theorem sm_4 {f : Int → Int} : sm f 4 = f 0 + f 1 + f 2 + f 3 := by
  show 0 + f 0 + f 1 + f 2 + f 3 = _
  omega
section OPD
variable {X : List Int32} {d : Nat} {s : m_St} {P : Option Value → m_St → Prop} {i k w c : Int}
theorem sp_markM (h : mok s) (i0 : 0 ≤ i) (i1 : i < s 83 0) (k1 : 1 ≤ k) (k5 : k ≤ 5) (kk : P (some (vI (sm (mkw (s 83) (s 38 5) i k) 4))) s) : Rn X (d + 4) 190 42 [some (vR 77), some (vI i), some (vI k), some (vI 0), some (vI 0), none, none] [] s P := by
  obtain ⟨i6, k0, k6, hw⟩ := h.g i0 i1
  have bd : ∀ m : Nat, m ≤ 4 → -(m : Int) ≤ sm (mkw (s 83) (s 38 5) i k) m ∧ sm (mkw (s 83) (s 38 5) i k) m ≤ 3 * m := by
    intro m
    induction m with
    | zero => intro _; show _ ≤ (0 : Int) ∧ (0 : Int) ≤ _; omega
    | succ m ih =>
      intro hm
      rw [sm_s]
      have := ih (by omega)
      have := mkw_r (h := s 83) (R := s 38 5) (i := i) (k := k) (c := m)
      omega
  have loop : ∀ (m : Nat) (c : Int) (z5 z6 : Option Value), 0 ≤ c → c + m = 4 → Rn X (d + 4) 190 42 [some (vR 77), some (vI i), some (vI k), some (vI (sm (mkw (s 83) (s 38 5) i k) c.toNat)), some (vI c), z5, z6] [] s P := by
    intro m
    induction m with
    | zero =>
      intro c z5 z6 c0 cm
      have : c = 4 := by omega
      subst this
      apply t_X6_mark_42 i0 i6 c0 <;> intros
      all_goals first | exact kk | omega
    | succ m ih =>
      intro c z5 z6 c0 cm
      have hwc := hw c c0 (by omega)
      have hx := fun z5 z6 => ih (c + 1) z5 z6 (by omega) (by omega)
      rw [sm_up c0] at hx
      have b := bd c.toNat (by omega)
      have ep : s 83 (8 + 5 * i + 1 + c) = s 83 (9 + 5 * i + c) := by rw [show 8 + 5 * i + 1 + c = 9 + 5 * i + c by omega]
      have fin : ∀ v z5 z6, v = mkw (s 83) (s 38 5) i k c → Rn X (d + 4) 190 42 [some (vR 77), some (vI i), some (vI k), some (vI (sm (mkw (s 83) (s 38 5) i k) c.toNat + v)), some (vI (c + 1)), z5, z6] [] s P := fun v z5 z6 hv => by rw [hv]; exact hx z5 z6
      have fin0 : ∀ z5 z6, 0 = mkw (s 83) (s 38 5) i k c → Rn X (d + 4) 190 42 [some (vR 77), some (vI i), some (vI k), some (vI (sm (mkw (s 83) (s 38 5) i k) c.toNat)), some (vI (c + 1)), z5, z6] [] s P := fun z5 z6 hv => by have := fin 0 z5 z6 hv; rw [Int.add_zero] at this; exact this
      unfold mkw at fin fin0
      apply t_X6_mark_42 i0 i6 c0 <;> intros
      all_goals first | omega | exact h | (exact fin _ _ _ (by omega)) | (exact fin0 _ _ (by omega))
  exact loop 4 0 none none (by omega) (by omega)
end OPD
