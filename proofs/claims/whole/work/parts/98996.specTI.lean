/-! chances of the reference -/
theorem bit01 {a c : Int} (c0 : 0 ≤ c) (c1 : c < 32) : iAnd (iShr a c) 1 = 0 ∨ iAnd (iShr a c) 1 = 1 := by
  rw [bit_of c0 c1]
  cases bt a c.toNat
  · exact Or.inl rfl
  · exact Or.inr rfl
def fC (c : Int) : Int → Int := fun x => if c = -9 then on16 x else iAnd (iShr x c) 1
theorem on4 : ∀ x : Fin 16, 0 ≤ on16 ((x : Nat) : Int) ∧ on16 ((x : Nat) : Int) ≤ 4 := by decide +kernel
theorem fC_r {c : Int} (hc : c = -9 ∨ (0 ≤ c ∧ c < 4)) : ∀ x, 0 ≤ x → x < 16 → 0 ≤ fC c x ∧ fC c x ≤ 4 := by
  intro x x0 x1
  unfold fC
  by_cases h9 : c = -9
  · rw [if_pos h9]
    obtain ⟨y, hy⟩ := fin16 x0 x1
    rw [← hy]
    exact on4 y
  · rw [if_neg h9]
    have := bit01 (a := x) (c := c) (by omega) (by omega)
    omega
noncomputable def chv (s : m_St) (c r p : Int) : Int := dG (s 83 (8 + 5 * (s 83 5 - 1))) (s 83 (8 + 5 * (s 83 6 - 1))) (s 38 5) p (fun j => s 79 (40 * r + j)) (fC c) (s 78 r).toNat 0 (W0 (s 83) (s 83 5 - 1) (s 83 6 - 1))
def chd (s : m_St) (r : Int) : Int := ((12 ^ (s 78 r).toNat : Nat) : Int)
def qCh (s : m_St) (c r p v : Int) (s' : m_St) : Prop := v = 1 ∧ ∃ s0, frB s s0 ∧ s' = m_upd (m_upd s0 77 12 (chv s c r p / gd (chv s c r p) (chd s r))) 77 13 (chd s r / gd (chv s c r p) (chd s r))
theorem shl1 : ∀ k : Fin 7, iShl 1 ((k : Nat) : Int) = ((2 ^ (k : Nat) : Nat) : Int) := by decide +kernel
theorem p12 : ∀ k : Fin 7, 0 < ((12 ^ (k : Nat) : Nat) : Int) ∧ ((12 ^ (k : Nat) : Nat) : Int) ≤ 2985984 := by decide +kernel
theorem p2 : ∀ k : Fin 7, (2 ^ (k : Nat) : Nat) ≤ 64 := by decide +kernel
theorem chd_r {s : m_St} {r : Int} (n0 : 0 ≤ s 78 r) (n6 : s 78 r ≤ 6) : 0 < chd s r ∧ chd s r ≤ 2985984 := p12 ⟨(s 78 r).toNat, by omega⟩
theorem chv_r {s : m_St} {c r p : Int} (n0 : 0 ≤ s 78 r) (n6 : s 78 r ≤ 6) (hc : c = -9 ∨ (0 ≤ c ∧ c < 4)) (u0 : 0 ≤ p) (u1 : p ≤ 12) : 0 ≤ chv s c r p ∧ chv s c r p ≤ 11943936 := by
  have h1 := dG_r (k0 := s 83 (8 + 5 * (s 83 5 - 1))) (k1 := s 83 (8 + 5 * (s 83 6 - 1))) (R := s 38 5) (sc := fun j => s 79 (40 * r + j)) (f := fC c) (C := 4) u0 u1 (fC_r hc) (s 78 r).toNat 0 (W0 (s 83) (s 83 5 - 1) (s 83 6 - 1))
  have h2 := chd_r n0 n6
  have h3 : ((12 ^ (s 78 r).toNat : Nat) : Int) ≤ 2985984 := h2.2
  unfold chv
  omega
theorem chv_fr {s t : m_St} {c r p : Int} (e83 : t 83 = s 83) (e38 : t 38 5 = s 38 5) (e78 : t 78 r = s 78 r) (e79 : ∀ j, t 79 j = s 79 j) : chv t c r p = chv s c r p := by
  unfold chv
  rw [e83, e38, e78, show (fun j => t 79 (40 * r + j)) = (fun j => s 79 (40 * r + j)) from funext fun j => e79 _]
theorem bbk_fr {s t : m_St} {r : Int} (h : bbk s r) (e : frB s t) : bbk t r := by
  obtain ⟨h1, h2, h3, h4⟩ := h
  have e83 : t 83 = s 83 := funext fun q => e 83 q (by decide) (by decide)
  have e38 : t 38 5 = s 38 5 := e _ _ (by decide) (by decide)
  have e78 : t 78 r = s 78 r := e _ _ (by decide) (by decide)
  refine ⟨⟨⟨?_, ?_⟩, ?_⟩, by omega, by omega, fun j j0 j1 => ?_⟩
  · rw [e83]; exact h1.1.1
  · rw [e83, e38]; exact h1.1.2
  · rw [e83]; exact h1.2
  · rw [e 79 _ (by decide) (by decide)]
    exact h4 j j0 (by omega)
theorem bbW_fr {s t : m_St} {r l : Int} (e : frB s t) : bbW t r l = bbW s r l := by
  have e83 : t 83 = s 83 := funext fun q => e 83 q (by decide) (by decide)
  have e38 : t 38 5 = s 38 5 := e _ _ (by decide) (by decide)
  have e78 : t 78 r = s 78 r := e _ _ (by decide) (by decide)
  unfold bbW
  rw [e83, e38, e78, show (fun j => t 79 (40 * r + j)) = (fun j => s 79 (40 * r + j)) from funext fun j => e _ _ (by decide) (by decide)]
section SPCH
variable {X : List Int32} {d : Nat} {s : m_St} {P : Option Value → m_St → Prop} {c r p : Int}
theorem sp_chance (h : bbk s r) (h0 : 0 ≤ r) (h6 : r < 6) (hc : c = -9 ∨ (0 ≤ c ∧ c < 4)) (u0 : 0 ≤ p) (u1 : p ≤ 12) (kk : ∀ v s', qCh s c r p v s' → P (some (vI v)) s') : Cl X (d + 5) 242 [vR 77, vI c, vI r, vI p] s P := by
  have n0 := h.2.1
  have n6 := h.2.2.1
  have hS := shl1 ⟨(s 78 r).toNat, by omega⟩
  have e78 : (((s 78 r).toNat : Nat) : Int) = s 78 r := by omega
  have hS2 : iShl 1 (s 78 r) = ((2 ^ (s 78 r).toNat : Nat) : Int) := by
    rw [← e78]
    exact hS
  have h64 := p2 ⟨(s 78 r).toNat, by omega⟩
  have h64' : 2 ^ (s 78 r).toNat ≤ 64 := h64
  have hsum : sm (fun i => hwt p (s 78 r).toNat i.toNat * fC c (bbW s r i)) (2 ^ (s 78 r).toNat) = chv s c r p := sm_dG _ _ _
  have cr := chv_r (c := c) (p := p) n0 n6 hc u0 u1
  have cd := chd_r (r := r) n0 n6
  generalize hF : (fun i : Int => hwt p (s 78 r).toNat i.toNat * fC c (bbW s r i)) = Fs at hsum
  have eF : ∀ i : Int, Fs i = hwt p (s 78 r).toNat i.toNat * fC c (bbW s r i) := fun i => by rw [← hF]
  have outer : ∀ (m : Nat) (l : Int) (s1 : m_St) (z9 z11 : Option Value), 0 ≤ l → l + m = ((2 ^ (s 78 r).toNat : Nat) : Int) → frB s s1 → Rn X (d + 5) 242 37 [some (vR 77), some (vI c), some (vI r), some (vI p), some (vJ (sm Fs l.toNat)), none, some (vJ (chd s r)), none, some (vI l), z9, none, z11] [] s1 P := by
    intro m
    induction m with
    | zero =>
      intro l s1 z9 z11 l0 lm hf
      have hl : l.toNat = 2 ^ (s 78 r).toNat := by omega
      have y8 : s1 78 r = s 78 r := hf 78 r (by decide) (by decide)
      have hk := kk 1 _ ⟨rfl, s1, hf, rfl⟩
      rw [hl, hsum]
      have hS3 : iShl 1 (s1 78 r) = ((2 ^ (s 78 r).toNat : Nat) : Int) := by rw [y8]; exact hS2
      clear kk hS hF eF
      apply t_X6_chance_37 h0 h6 l0 <;> intros
      all_goals first | exact hk | omega
    | succ m ih =>
      intro l s1 z9 z11 l0 lm hf
      have y8 : s1 78 r = s 78 r := hf 78 r (by decide) (by decide)
      have inner : ∀ (q : Nat) (v k : Int), 0 ≤ k → k + q = s 78 r → v * hwt p q (l.toNat / 2 ^ k.toNat) = hwt p (s 78 r).toNat l.toNat → Rn X (d + 5) 242 56 [some (vR 77), some (vI c), some (vI r), some (vI p), some (vJ (sm Fs l.toNat)), none, some (vJ (chd s r)), none, some (vI l), some (vJ v), none, some (vI k)] [] s1 P := by
        intro q
        induction q with
        | zero =>
          intro v k k0 kq hv
          have hv1 : v = hwt p (s 78 r).toNat l.toNat := by
            rw [← hv]
            exact (Int.mul_one _).symm
          have hbb := bbk_fr h hf
          have next : ∀ (v2 : Int) (s2 : m_St), qBb s1 r l v2 s2 → Rn X (d + 5) 242 37 [some (vR 77), some (vI c), some (vI r), some (vI p), some (vJ (sm Fs l.toNat + v * fC c v2)), none, some (vJ (chd s r)), none, some (vI (l + 1)), some (vJ v), none, some (vI v2)] [] s2 P := by
            intro v2 s2 hq
            have := ih (l + 1) s2 (some (vJ v)) (some (vI v2)) (by omega) (by omega) (fun x j c1 c2 => by rw [hq.2 x j c1 c2, hf x j c1 c2])
            rw [sm_up l0, eF l, ← bbW_fr hf, ← hq.1, ← hv1] at this
            exact this
          have n9 : ∀ (v2 : Int) (s2 : m_St), qBb s1 r l v2 s2 → ¬ c = -9 → Rn X (d + 5) 242 37 [some (vR 77), some (vI c), some (vI r), some (vI p), some (vJ (sm Fs l.toNat + v * iAnd (iShr v2 c) 1)), none, some (vJ (chd s r)), none, some (vI (l + 1)), some (vJ v), none, some (vI v2)] [] s2 P := fun v2 s2 hq h9 => by
            have := next v2 s2 hq
            rw [show fC c v2 = iAnd (iShr v2 c) 1 from if_neg h9] at this
            exact this
          have y9 : ∀ (v2 : Int) (s2 : m_St), qBb s1 r l v2 s2 → c = -9 → Rn X (d + 5) 242 37 [some (vR 77), some (vI c), some (vI r), some (vI p), some (vJ (sm Fs l.toNat + v * on16 v2)), none, some (vJ (chd s r)), none, some (vI (l + 1)), some (vJ v), none, some (vI v2)] [] s2 P := fun v2 s2 hq h9 => by
            have := next v2 s2 hq
            rw [show fC c v2 = on16 v2 from if_pos h9] at this
            exact this
          clear next ih kk hsum eF hF hS hv
          apply t_X6_chance_56 h0 h6 l0 k0 <;> intros
          all_goals first | exact hbb | (exact n9 _ _ (by assumption) (by assumption)) | (exact y9 _ _ (by assumption) (by assumption)) | (clear n9 y9; omega)
        | succ q ihq =>
          intro v k k0 kq hv
          have hlb := lbit (l := l) (k := k) l0 (by omega) k0 (by omega)
          have hw : hwt p (q + 1) (l.toNat / 2 ^ k.toNat) = (if l.toNat / 2 ^ k.toNat % 2 = 0 then 12 - p else p) * hwt p q (l.toNat / 2 ^ (k + 1).toNat) := by
            rw [← half_up k0]
            rfl
          rw [hw, ← Int.mul_assoc] at hv
          have gy : ¬ iAnd (iShr l k) 1 = 1 → Rn X (d + 5) 242 56 [some (vR 77), some (vI c), some (vI r), some (vI p), some (vJ (sm Fs l.toNat)), none, some (vJ (chd s r)), none, some (vI l), some (vJ (v * (12 - p))), none, some (vI (k + 1))] [] s1 P := fun hl => by
            rw [if_pos (Classical.byContradiction (fun zz => hl (hlb.mpr zz)))] at hv
            exact ihq (v * (12 - p)) (k + 1) (by omega) (by omega) hv
          have gn : iAnd (iShr l k) 1 = 1 → Rn X (d + 5) 242 56 [some (vR 77), some (vI c), some (vI r), some (vI p), some (vJ (sm Fs l.toNat)), none, some (vJ (chd s r)), none, some (vI l), some (vJ (v * p)), none, some (vI (k + 1))] [] s1 P := fun hl => by
            rw [if_neg (hlb.mp hl)] at hv
            exact ihq (v * p) (k + 1) (by omega) (by omega) hv
          clear ihq ih kk hsum eF hF hS hv hw hlb
          apply t_X6_chance_56 h0 h6 l0 k0 <;> intros
          all_goals first | (exact gy (by assumption)) | (exact gn (by assumption)) | (clear gy gn; omega)
      have go := inner (s 78 r).toNat 1 0 (by decide) (by omega) (by rw [Int.one_mul, show l.toNat / 2 ^ (0 : Int).toNat = l.toNat from Nat.div_one _])
      have hS3 : iShl 1 (s1 78 r) = ((2 ^ (s 78 r).toNat : Nat) : Int) := by rw [y8]; exact hS2
      clear inner ih kk hsum eF hF hS
      apply t_X6_chance_37 h0 h6 l0 <;> intros
      all_goals first | exact go | (clear go; omega)
  have first_ : ∀ (m : Nat) (l : Int), 0 ≤ l → l + m = s 78 r → Rn X (d + 5) 242 9 [some (vR 77), some (vI c), some (vI r), some (vI p), some (vJ 0), none, some (vJ ((12 ^ l.toNat : Nat) : Int)), none, some (vI l), none, none, none] [] s P := by
    intro m
    induction m with
    | zero =>
      intro l l0 lm
      have hl : l = s 78 r := by omega
      have go := outer (2 ^ (s 78 r).toNat) 0 s none none (by decide) (by omega) (fun _ _ _ _ => rfl)
      have e0 : sm Fs (0 : Int).toNat = 0 := rfl
      rw [e0] at go
      have ed : ((12 ^ l.toNat : Nat) : Int) = chd s r := by rw [hl]; rfl
      rw [ed]
      clear outer kk hsum eF hF hS hS2
      apply t_X6_chance_9 h0 h6 l0 <;> intros
      all_goals first | exact go | omega
    | succ m ih =>
      intro l l0 lm
      have go := ih (l + 1) (by omega) (by omega)
      rw [show (l + 1).toNat = l.toNat + 1 by omega, Nat.pow_succ, show ((12 ^ l.toNat * 12 : Nat) : Int) = ((12 ^ l.toNat : Nat) : Int) * 12 by omega] at go
      clear outer kk hsum eF hF hS hS2 ih
      apply t_X6_chance_9 h0 h6 l0 <;> intros
      all_goals first | exact go | omega
  exact t_X6_chance h0 h6 (first_ (s 78 r).toNat 0 (by decide) (by omega))
end SPCH
