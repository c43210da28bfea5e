/-! which kinds fit; the greatest part that is moved alike -/
def kbs (F : Int → Int) : Nat → Int
  | 0 => 0
  | n + 1 => if F n = 0 then kbs F n else iOr (kbs F n) (iShl 1 n)
theorem kbs_up {F : Int → Int} {i : Int} (h : 0 ≤ i) : kbs F (i + 1).toNat = if F i = 0 then kbs F i.toNat else iOr (kbs F i.toNat) (iShl 1 i) := by
  have e : (i + 1).toNat = i.toNat + 1 := by omega
  have e2 : ((i.toNat : Nat) : Int) = i := by omega
  rw [e]
  show (if F (i.toNat : Int) = 0 then _ else _) = _
  rw [e2]
def mva (s : m_St) (i c k : Int) : Int := mv k (hset (s (44 + 4 * i + 1)) (hf k)) (s 38 5) c
def alk (b : Int) (f : Int → Int) (k : Int) : Int → Int := fun o => if iAnd (iAnd (iShr b k) (iShr b o)) 1 = 0 then 0 else if f k = f o then 1 else 0
def gpa (b : Int) (f : Int → Int) : Nat → Int
  | 0 => 0
  | n + 1 => max (gpa b f n) (sm (alk b f n) 6)
theorem gpa_up {b : Int} {f : Int → Int} {i : Int} (h : 0 ≤ i) : gpa b f (i + 1).toNat = max (gpa b f i.toNat) (sm (alk b f i) 6) := by
  have e : (i + 1).toNat = i.toNat + 1 := by omega
  have e2 : ((i.toNat : Nat) : Int) = i := by omega
  rw [e]
  show max _ (sm (alk b f (i.toNat : Int)) 6) = _
  rw [e2]
theorem alk_r {b : Int} {f : Int → Int} {k : Int} : ∀ n : Nat, 0 ≤ sm (alk b f k) n ∧ sm (alk b f k) n ≤ n := by
  intro n
  induction n with
  | zero => exact ⟨by show (0 : Int) ≤ 0; omega, by show (0 : Int) ≤ 0; omega⟩
  | succ n ih =>
    rw [sm_s]
    have : alk b f k n = 0 ∨ alk b f k n = 1 := by unfold alk; split; exact Or.inl rfl; split; exact Or.inr rfl; exact Or.inl rfl
    omega
theorem gpa_r {b : Int} {f : Int → Int} : ∀ n : Nat, 0 ≤ gpa b f n ∧ gpa b f n ≤ 6 := by
  intro n
  induction n with
  | zero => exact ⟨by show (0 : Int) ≤ 0; omega, by show (0 : Int) ≤ 6; omega⟩
  | succ n ih =>
    have := alk_r (b := b) (f := f) (k := n) 6
    show 0 ≤ max _ _ ∧ max _ _ ≤ 6
    omega
theorem mva_fr {s s' : m_St} {i c k : Int} (i0 : 0 ≤ i) (i6 : i < 6) (h : fr74 s s') : mva s' i c k = mva s i c k := by
  unfold mva
  rw [h 38 5 (by omega), hset_cong (fun x _ _ => h (44 + 4 * i + 1) x (by omega))]
theorem fr74_lk {s : m_St} {o k : Int} : fr74 s (lk s 74 o k) := fun c j h => lk_o (by omega) (by omega)
theorem gok_fr {s s' : m_St} {i : Int} (i0 : 0 ≤ i) (i6 : i < 6) (h : fr74 s s') (g : gok s (44 + 4 * i)) : gok s' (44 + 4 * i) := gok_cong (fun x => h _ _ (by omega)) (fun x => h _ _ (by omega)) g
theorem fiA_fr {s s' : m_St} {i r k : Int} (i0 : 0 ≤ i) (i6 : i < 6) (h0 : 0 ≤ r) (h6 : r < 6) (h : fr74 s s') : fiA s' i r k ↔ fiA s i r k := by
  have e2 : s' 2 r = s 2 r := h _ _ (by omega)
  have e3 : s' 38 5 = s 38 5 := h _ _ (by omega)
  have e4 : s' (4 + r) = s (4 + r) := funext fun x => h _ _ (by omega)
  have e5 : s' (44 + 4 * i + 1) = s (44 + 4 * i + 1) := funext fun x => h _ _ (by omega)
  unfold fiA fitp
  rw [e2, e3, e4, e5]
section SPQ
variable {X : List Int32} {d : Nat} {s : m_St} {P : Option Value → m_St → Prop} {r i b c : Int}
theorem sp_kindsBy (h0 : 0 ≤ r) (h6 : r < 6) (i0 : 0 ≤ i) (i6 : i < 6) (kg : gok s (44 + 4 * i)) (hr : rwk s r) (hz : 0 ≤ s 2 r) (h3 : s 2 r % 3 = 0) (ha : atr s r) (kk : ∀ (v : Int) (s' : m_St), v = kbs (fun k => pb (fiA s i r k)) 6 ∧ fr74 s s' → P (some (vI v)) s') : Cl X (d + 6) 127 [vR 0, vI i, vI r] s P := by
  apply t_X5_kindsBy i0 i6 h0 h6
  have loop : ∀ (m : Nat) (k : Int) (s1 : m_St), 0 ≤ k → k + m = 6 → fr74 s s1 → Rn X (d + 6) 127 5 [some (vR 0), some (vI i), some (vI r), some (vI (kbs (fun k => pb (fiA s i r k)) k.toNat)), some (vI k)] [] s1 P := by
    intro m
    induction m with
    | zero =>
      intro k s1 k0 km hfr0
      have : k = 6 := by omega
      subst this
      apply t_X5_kindsBy_5 i0 i6 h0 h6 k0 <;> intros
      all_goals first | omega | exact kk _ _ ⟨rfl, hfr0⟩
    | succ m ih =>
      intro k s1 k0 km hfr0
      have e2 : s1 2 r = s 2 r := hfr0 _ _ (by omega)
      have e4 : s1 (4 + r) = s (4 + r) := funext fun x => hfr0 _ _ (by omega)
      have up := kbs_up (F := fun k => pb (fiA s i r k)) k0
      have hpb : pb (fiA s1 i r k) = pb (fiA s i r k) := pb_iff (fiA_fr i0 i6 h0 h6 hfr0)
      have hr1 : rwk s1 r := by unfold rwk; rw [e2, e4]; exact hr
      have ha1 : atr s1 r := by unfold atr; rw [e2, e4]; exact ha
      apply t_X5_kindsBy_5 i0 i6 h0 h6 k0 <;> intros
      all_goals first | omega | exact gok_fr i0 i6 hfr0 kg | exact hr1 | exact ha1 | (rw [e2]; exact h3) | (rename_i q; rw [q.1]; exact inR_pb _) | skip
      · next v s' q hv =>
        have := ih (k + 1) s' (by omega) (by omega) (hfr0.trans q.2)
        rw [up, if_pos (by rw [← hpb, ← q.1]; exact hv)] at this
        exact this
      · next v s' q hv =>
        have := ih (k + 1) s' (by omega) (by omega) (hfr0.trans q.2)
        rw [up, if_neg (by rw [← hpb, ← q.1]; exact hv)] at this
        exact this
  exact loop 6 0 s (by omega) (by omega) fr74.rfl'
theorem sp_greatestPart (i0 : 0 ≤ i) (i6 : i < 6) (kg : gok s (44 + 4 * i)) (kk : ∀ (v : Int) (s' : m_St), v = gpa b (mva s i c) 6 ∧ fr74 s s' → P (some (vI v)) s') : Cl X (d + 5) 130 [vR 0, vI i, vI b, vI c] s P := by
  apply t_X5_greatestPart i0 i6
  have loop : ∀ (m : Nat) (k : Int) (z6 z7 : Option Value) (s1 : m_St), 0 ≤ k → k + m = 6 → fr74 s s1 → Rn X (d + 5) 130 6 [some (vR 0), some (vI i), some (vI b), some (vI c), some (vI (gpa b (mva s i c) k.toNat)), some (vI k), z6, z7] [] s1 P := by
    intro m
    induction m with
    | zero =>
      intro k z6 z7 s1 k0 km hfr0
      have : k = 6 := by omega
      subst this
      apply t_X5_greatestPart_6 i0 i6 <;> intros
      all_goals first | omega | exact kk _ _ ⟨rfl, hfr0⟩
    | succ m ih =>
      intro k z6 z7 s1 k0 km hfr0
      have up := gpa_up (b := b) (f := mva s i c) k0
      have gr := gpa_r (b := b) (f := mva s i c) k.toNat
      apply t_X5_greatestPart_6 i0 i6 <;> intros
      all_goals first | omega | skip
      have loop2 : ∀ (m2 : Nat) (o : Int) (s2 : m_St), 0 ≤ o → o + m2 = 6 → fr74 s s2 → Rn X (d + 5) 130 19 [some (vR 0), some (vI i), some (vI b), some (vI c), some (vI (gpa b (mva s i c) k.toNat)), some (vI k), some (vI (sm (alk b (mva s i c) k) o.toNat)), some (vI o)] [] s2 P := by
        intro m2
        induction m2 with
        | zero =>
          intro o s2 o0 om hf2
          have : o = 6 := by omega
          subst this
          have ar := alk_r (b := b) (f := mva s i c) (k := k) (Int.toNat 6)
          have hx := ih (k + 1) (some (vI (sm (alk b (mva s i c) k) (Int.toNat 6)))) (some (vI 6)) s2 (by omega) (by omega) hf2
          rw [up] at hx
          have e6 : Int.toNat 6 = 6 := rfl
          apply t_X5_greatestPart_19 i0 i6 <;> intros
          all_goals first | exact hx | omega
        | succ m2 ih2 =>
          intro o s2 o0 om hf2
          have su := sm_up (f := alk b (mva s i c) k) o0
          have ar := alk_r (b := b) (f := mva s i c) (k := k) o.toNat
          have g2 : gok s2 (44 + 4 * i) := gok_fr i0 i6 hf2 kg
          have g3 : gok (lk s2 74 (44 + 4 * i) k) (44 + 4 * i) := gok_fr i0 i6 fr74_lk g2
          have m1 : mv k (hset (s2 (44 + 4 * i + 1)) (hf k)) (s2 38 5) c = mva s i c k := mva_fr i0 i6 hf2
          have m2' : mv o (hset ((lk s2 74 (44 + 4 * i) k) (44 + 4 * i + 1)) (hf o)) ((lk s2 74 (44 + 4 * i) k) 38 5) c = mva s i c o := mva_fr i0 i6 (hf2.trans fr74_lk)
          apply t_X5_greatestPart_19 i0 i6 <;> intros
          all_goals first | omega | exact g2 | exact g3 | skip
          · next q1 q2 =>
            have hx := ih2 (o + 1) s2 (by omega) (by omega) hf2
            rw [su, show alk b (mva s i c) k o = 0 from if_pos q2, Int.add_zero] at hx
            exact hx
          · next q1 q2 q3 =>
            have hx := ih2 (o + 1) (lk (lk s2 74 (44 + 4 * i) k) 74 (44 + 4 * i) o) (by omega) (by omega) ((hf2.trans fr74_lk).trans fr74_lk)
            rw [m1, m2'] at q3
            rw [su, show alk b (mva s i c) k o = 0 from by unfold alk; rw [if_neg q2, if_neg q3], Int.add_zero] at hx
            exact hx
          · next q1 q2 q3 =>
            have hx := ih2 (o + 1) (lk (lk s2 74 (44 + 4 * i) k) 74 (44 + 4 * i) o) (by omega) (by omega) ((hf2.trans fr74_lk).trans fr74_lk)
            rw [m1, m2'] at q3
            rw [su, show alk b (mva s i c) k o = 1 from by unfold alk; rw [if_neg q2, if_pos q3]] at hx
            exact hx
      exact loop2 6 0 s1 (by omega) (by omega) hfr0
  exact loop 6 0 none none s (by omega) (by omega) fr74.rfl'
end SPQ
