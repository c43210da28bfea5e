/-! calls side by side: lots -/
def ov (v : m_St) (h : Int → Int) : m_St := fun c j => if c = 83 then h j else v c j
theorem ov_o {v : m_St} {h : Int → Int} {c j : Int} (hc : ¬ c = 83) : ov v h c j = v c j := if_neg hc
theorem ov_oF {v : m_St} {h : Int → Int} {c : Int} (hc : ¬ c = 83) : ov v h c = v c := funext fun _ => if_neg hc
theorem ov_83 {v : m_St} {h : Int → Int} : ov v h 83 = h := funext fun _ => if_pos rfl
theorem ov_upd {v : m_St} {h : Int → Int} {c j x : Int} (hc : ¬ c = 83) : m_upd (ov v h) c j x = ov (m_upd v c j x) h := by
  funext a i
  unfold m_upd ov
  by_cases ha : a = 83
  · rw [if_neg (by omega), if_pos ha, if_pos ha]
  · rw [if_neg ha, if_neg ha]
theorem ov_wg {v : m_St} {h : Int → Int} {g c w : Int} (h1 : ¬ g = 83) (h2 : ¬ g + 1 = 83) : wg (ov v h) g c w = ov (wg v g c w) h := by
  unfold wg
  rw [ov_upd h2, ov_upd h1, ov_oF h2, ov_oF h1]
theorem ov_pf {v : m_St} {h : Int → Int} {a : Int} : pf (ov v h) a = ov (pf v a) h := by
  unfold pf
  by_cases h8 : a < 8
  · rw [if_pos h8, if_pos h8, ov_oF (c := 38) (by decide)]
    have q1 : ∀ x : Int, ¬ 44 + 4 * x = 83 := fun x => by omega
    have q2 : ∀ x : Int, ¬ 44 + 4 * x + 1 = 83 := fun x => by omega
    rw [ov_oF (q1 _), ov_oF (q2 _), ov_wg (q1 _) (q2 _), ov_upd (by decide)]
  · rw [if_neg h8, if_neg h8]
    by_cases h9 : a = 8
    · rw [if_pos h9, if_pos h9, ov_oF (c := 38) (by decide), ov_upd (by decide)]
    · rw [if_neg h9, if_neg h9, ov_upd (by decide), ov_upd (by decide)]
theorem ov_acs {v : m_St} {h : Int → Int} {a : Int} : acs (ov v h) a = ov (acs v a) h := by
  unfold acs
  rw [ov_oF (c := 38) (by decide), ov_upd (by decide), ov_upd (by decide), ov_pf]
theorem ov_mdo {v : m_St} {h : Int → Int} {a : Int} : ov (mdo v a) h = ov v h := by
  funext c j
  unfold ov mdo
  by_cases hc : c = 83
  · rw [if_pos hc, if_pos hc]
  · rw [if_neg hc, if_neg hc, if_neg hc]
def lotu (u : Int) : Int := u * 48271 % 2147483647
def lotz (u : Int) : Int := u * 48271 % 2147483647 / 8 % 8
def ldd (h : Int → Int) (u : Int) : Int := if cbM h (lotz u) = 0 then 8 else if h 1 ≤ 0 then 8 else lotz u
def lrun (R : Int) (h : Int → Int) (u : Int) : Nat → Int → Int
  | 0 => h
  | k + 1 => lrun R (mdf R h (ldd h u)) (lotu u) k
theorem ldd_ok {h : Int → Int} {u : Int} (hh : hok h) (hu : 1 ≤ h 5) : dok h (ldd h u) ∧ ldd h u < 9 := by
  have z0 : 0 ≤ lotz u ∧ lotz u < 8 := by unfold lotz; omega
  unfold ldd
  split
  · exact ⟨⟨by omega, by omega, fun z => by omega, fun z => by omega⟩, by omega⟩
  · split
    · exact ⟨⟨by omega, by omega, fun z => by omega, fun z => by omega⟩, by omega⟩
    · exact ⟨⟨by omega, by omega, fun _ => ⟨hu, by omega⟩, fun z => by omega⟩, by omega⟩
theorem mdf_ok {R : Int} {h : Int → Int} {d : Int} (hh : hok h) (hd : dok h d) : hok (mdf R h d) ∧ mdf R h d 7 = h 7 ∧ mdf R h d 3 = h 3 + 1 ∧ (d < 9 → mdf R h d 5 = h 5) := by
  have h06 := hh.2.1
  have s0 := stp_k (R := R) hh hd (j := 0) (Or.inl rfl)
  refine ⟨hok_hj (h := stp R h d) (fun j hjj => ?_) (stp_ok hh hd), ?_, ?_, fun h9 => ?_⟩
  · rw [s0] at hjj
    unfold hj at hjj
    unfold mdf
    rw [if_neg (by omega), if_neg (by omega)]
  · unfold mdf
    rw [if_neg (by omega), if_neg (by decide)]
    exact stp_k hh hd (by omega)
  · unfold mdf ntf
    rw [if_pos (Or.inl rfl), if_pos rfl]
  · unfold mdf
    rw [if_neg (by omega), if_neg (by decide)]
    unfold stp
    by_cases h8 : d < 8
    · have := (hrr_r hh hd h8).1
      have := hd.1
      rw [if_pos h8, setf_o (by decide), setf_o (by omega)]
    · rw [if_neg h8, if_pos (by omega), setf_o (by decide)]
section OPJ
variable {X : List Int32} {d : Nat} {s : m_St} {P : Option Value → m_St → Prop} {i j k z n R : Int}
theorem lots_M : ∀ (mm : Nat) (k u : Int) (s2 : m_St) (z6 z7 : Option Value), 0 ≤ k → k + mm = n → n ≤ 20 → 0 ≤ u → u ≤ 2147483647 → uok s2 → 0 ≤ s2 83 3 → s2 83 3 + mm ≤ 40 → (∀ s', (∀ c j, ¬ c = 83 → s' c j = s2 c j) → s' 83 = lrun (s2 38 5) (s2 83) u mm → P (some (vI (iAnd (hld (s' 83) (s' 83 (5 + 0) - 1)) (hld (s' 83) (s' 83 (5 + 1) - 1))))) s') → Rn X (d + 5) 246 55 [some (vR 77), some (vI n), some (vI z), some (vJ u), none, some (vI k), z6, z7] [] s2 P := by
  intro mm
  induction mm with
  | zero =>
    intro k u s2 z6 z7 k0 km n20 u0 u1 hu n0 n4 hp
    have hx := hp s2 (fun _ _ _ => rfl) rfl
    apply t_X6_lots_55 k0 u0 <;> intros
    all_goals first | omega | exact hu | exact hx
  | succ mm ih =>
    intro k u s2 z6 z7 k0 km n20 u0 u1 hu n0 n4 hp
    obtain ⟨hd, hd9⟩ := ldd_ok (u := u) hu.1.1 hu.2
    have hmf := mdf_ok (R := s2 38 5) hu.1.1 hd
    have step : ∀ (dd : Int) (y6 y7 : Option Value), dd = ldd (s2 83) u → Rn X (d + 5) 246 55 [some (vR 77), some (vI n), some (vI z), some (vJ (u * 48271 % 2147483647)), none, some (vI (k + 1)), y6, y7] [] (mdo s2 dd) P := by
      intro dd y6 y7 hdd
      subst hdd
      have e83 : mdo s2 (ldd (s2 83) u) 83 = mdf (s2 38 5) (s2 83) (ldd (s2 83) u) := funext fun j => mdo_83
      have e38 : mdo s2 (ldd (s2 83) u) 38 5 = s2 38 5 := mdo_o (by decide)
      refine ih (k + 1) (u * 48271 % 2147483647) _ y6 y7 (by omega) (by omega) n20 (by omega) (by omega) ?_ ?_ ?_ (fun s' hf hs => hp s' (fun c j hc => by rw [hf c j hc, mdo_o hc]) ?_)
      · unfold uok mok
        rw [e83, e38, hmf.2.1, hmf.2.2.2 hd9]
        exact ⟨⟨hmf.1, hu.1.2⟩, hu.2⟩
      · rw [e83, hmf.2.2.1]; omega
      · rw [e83, hmf.2.2.1]; omega
      · rw [hs, e83, e38]
        rfl
    have hw0 := hu.1.1.2.2.1
    have hw1 := hu.1.1.2.2.2.1
    have hl : ldd (s2 83) u = if cbM (s2 83) (u * 48271 % 2147483647 / 8 % 8) = 0 then 8 else if s2 83 1 ≤ 0 then 8 else u * 48271 % 2147483647 / 8 % 8 := rfl
    apply t_X6_lots_55 k0 u0 <;> intros
    all_goals first | exact hu | (refine step _ _ _ ?_; rw [hl]; first | (rw [if_pos (by assumption)]; done) | (rw [if_neg (by assumption), if_pos (by assumption)]; done) | (rw [if_neg (by assumption), if_neg (by omega)]; done)) | omega
theorem lots_C {h0 : Int → Int} : ∀ (mm : Nat) (i u : Int) (v : m_St) (z6 : Option Value), 0 ≤ i → i + mm = n → n ≤ 20 → 0 ≤ u → u ≤ 2147483647 → J v → ¬ v 38 7 = -1 → v 38 9 + mm ≤ 40 → (∀ v', J v' → ¬ v' 38 7 = -1 → v' 83 = lrun (v 38 5) (v 83) u mm → v' 38 5 = v 38 5 → P (some (vI (shd (ov v' h0)))) (ov v' h0)) → Rn X (d + 5) 143 60 [some (vR 0), some (vI n), some (vI z), some (vJ u), none, some (vI i), z6] [] (ov v h0) P := by
  intro mm
  induction mm with
  | zero =>
    intro i u v z6 i0 im n20 u0 u1 hv hu n4 hp
    have hx := hp v hv hu rfl rfl
    have hup : upk (ov v h0) := by
      obtain ⟨y1, y2, y3, y4, y5⟩ := (J_up hv hu).1
      unfold upk
      rw [ov_oF (c := 38) (by decide)]
      exact ⟨y1, y2, y3, y4, fun q q0 q6 => gok_cong (fun _ => ov_o (by omega)) (fun _ => ov_o (by omega)) (y5 q q0 q6)⟩
    apply t_X5_lots_60 i0 <;> intros
    all_goals first | omega | exact hup | exact hx
  | succ mm ih =>
    intro i u v z6 i0 im n20 u0 u1 hv hu n4 hp
    obtain ⟨hup, huk, e7, e8, l7, l8⟩ := J_up hv hu
    obtain ⟨hd, hd9⟩ := ldd_ok (u := u) huk.1.1 huk.2
    have h9 := J_9 hv
    have gk : ∀ q, 0 ≤ q → q < 6 → gok (ov v h0) (44 + 4 * q) := fun q q0 q6 => gok_cong (fun _ => ov_o (by omega)) (fun _ => ov_o (by omega)) (hup.2.2.2.2 q q0 q6)
    have o38 : ov v h0 38 = v 38 := ov_oF (by decide)
    have hup' : upk (ov v h0) := by
      unfold upk
      rw [o38]
      exact ⟨hup.1, hup.2.1, hup.2.2.1, hup.2.2.2.1, gk⟩
    have z0 : 0 ≤ u * 48271 % 2147483647 / 8 % 8 ∧ u * 48271 % 2147483647 / 8 % 8 < 8 := by omega
    have hcs : csh (ov v h0) (u * 48271 % 2147483647 / 8 % 8) = cbM (v 83) (u * 48271 % 2147483647 / 8 % 8) := by
      rw [← csh_cb hv hu z0.1 z0.2]
      have q1 : ∀ x : Int, ¬ 44 + 4 * x = 83 := fun x => by omega
      unfold csh
      rw [o38, ov_oF (q1 _)]
    have hw : ov v h0 38 6 = v 83 1 := by rw [o38]; exact hv.v.1.2.1
    have o9 : ov v h0 38 9 = v 38 9 := by rw [o38]
    have step : ∀ (dd : Int) (y6 : Option Value), dd = ldd (v 83) u → Rn X (d + 5) 143 60 [some (vR 0), some (vI n), some (vI z), some (vJ (u * 48271 % 2147483647)), none, some (vI (i + 1)), y6] [] (acs (ov v h0) dd) P := by
      intro dd y6 hdd
      subst hdd
      have J2 := J_deed hv (by omega) hd
      obtain ⟨a83, a5⟩ := acs_83 hv hd
      obtain ⟨p1, p2, p3, p4⟩ := acs_v hv hd
      have hmf := mdf_ok (R := v 38 5) huk.1.1 hd
      have t83 : mdo (acs v (ldd (v 83) u)) (ldd (v 83) u) 83 = mdf (v 38 5) (v 83) (ldd (v 83) u) := by
        funext j
        rw [mdo_83, a83, a5]
      have t5 : mdo (acs v (ldd (v 83) u)) (ldd (v 83) u) 38 5 = v 38 5 := by rw [mdo_o (by decide)]; exact a5
      have t9 : mdo (acs v (ldd (v 83) u)) (ldd (v 83) u) 38 9 = v 38 9 + 1 := by rw [mdo_o (by decide)]; exact p4
      have t7 : mdo (acs v (ldd (v 83) u)) (ldd (v 83) u) 38 7 = v 83 5 - 1 := by
        have := (J_7 J2).1
        rw [this, t83, hmf.2.2.2 hd9]
      have hx := ih (i + 1) (u * 48271 % 2147483647) (mdo (acs v (ldd (v 83) u)) (ldd (v 83) u)) y6 (by omega) (by omega) n20 (by omega) (by omega) J2 (by have := huk.2; omega) (by rw [t9]; omega) (fun v' j1 j2 j3 j4 => hp v' j1 j2 (by rw [j3, t83, t5]; rfl) (by rw [j4, t5]))
      rw [ov_mdo] at hx
      rw [ov_acs]
      exact hx
    have hl : ldd (v 83) u = if cbM (v 83) (u * 48271 % 2147483647 / 8 % 8) = 0 then 8 else if v 83 1 ≤ 0 then 8 else u * 48271 % 2147483647 / 8 % 8 := rfl
    have hw0 := huk.1.1.2.2.1
    have hw1 := huk.1.1.2.2.2.1
    rw [← hcs, ← hw] at hl
    apply t_X5_lots_60 i0 <;> intros
    all_goals first | exact hup' | exact Or.inl hup' | exact gk _ (by assumption) (by assumption) | (refine step _ _ ?_; rw [hl]; first | (rw [if_pos (by assumption)]; done) | (rw [if_neg (by assumption), if_pos (by assumption)]; done) | (rw [if_neg (by assumption), if_neg (by omega)]; done)) | omega
end OPJ
theorem cmpJ_n {a b : Int} (ha : inJ a) (hb : inJ b) : cmpJ a b < 0 ↔ a < b := by
  have e := oJ_lt hb ha
  have e2 := oJ_eq ha hb
  unfold cmpJ lg_cmp
  by_cases h : b < a
  · rw [if_pos (e.mpr h)]
    refine ⟨fun z => ?_, fun z => by omega⟩
    exfalso
    revert z
    decide
  · rw [if_neg (fun z => h (e.mp z))]
    by_cases h2 : a = b
    · rw [if_pos (e2.mpr h2)]
      refine ⟨fun z => ?_, fun z => by omega⟩
      exfalso
      revert z
      decide
    · rw [if_neg (fun z => h2 (e2.mp z))]
      exact ⟨fun _ => by omega, fun _ => by decide⟩
section OPJ2
variable {X : List Int32} {d : Nat} {s : m_St} {i j k z n R : Int}
theorem op_lots (h : J s) (rn : inR n) (rz : inR z) : Cl X (d + 20) 143 [vR 0, vI n, vI z] s (Pw X (d + 20) 246 [vR 77, vI n, vI z]) := by
  have h7 := J_7 h
  have h9 := J_9 h
  have hc := cmpJ_n (a := z) (b := 2147483647) (by omega) (by decide)
  by_cases hb : 1 ≤ n ∧ n ≤ 20 ∧ 1 ≤ z ∧ z ≤ 2147483646
  · obtain ⟨n1, n20, z1, z2⟩ := hb
    have hc' : cmpJ z 2147483647 < 0 := hc.mpr (by omega)
    by_cases hu : s 38 7 = -1
    · apply t_X5_lots <;> intros
      all_goals first | exact rn | exact rz | omega | skip
      refine Pw_mk ?_
      apply t_X6_lots <;> intros
      all_goals first | exact rn | exact rz | omega | exact ⟨rfl, h⟩
    · by_cases hn : s 38 9 + n ≤ 40
      · have huk := (J_up h hu).2.1
        have e0 : ov s (s 83) = s := by
          funext c q
          unfold ov
          by_cases hc : c = 83
          · rw [if_pos hc, hc]
          · rw [if_neg hc]
        apply t_X5_lots <;> intros
        all_goals first | exact rn | exact rz | omega | skip
        rw [← e0]
        refine lots_C n.toNat 0 z s none (by omega) (by omega) n20 (by omega) (by omega) h hu (by omega) (fun v' j1 j2 j3 j4 => ?_)
        have q1 : ∀ x : Int, ¬ 44 + 4 * x = 83 := fun x => by omega
        have es : shd (ov v' (s 83)) = shd v' := by
          unfold shd
          rw [ov_oF (c := 38) (by decide), ov_oF (q1 _), ov_oF (q1 _)]
        have x5 : ov v' (s 83) 83 5 = s 83 5 := by rw [ov_83]
        have x3 : ov v' (s 83) 83 3 = s 83 3 := by rw [ov_83]
        have x38 : ov v' (s 83) 38 5 = s 38 5 := by rw [ov_oF (by decide)]; exact j4
        have xu : uok (ov v' (s 83)) := by unfold uok mok; rw [ov_83, x38]; exact huk
        refine Pw_mk ?_
        apply t_X6_lots <;> intros
        all_goals first | exact rn | exact rz | omega | skip
        refine lots_M n.toNat 0 z _ none none (by omega) (by omega) n20 (by omega) (by omega) xu (by omega) (by omega) (fun s' hf hs => ?_)
        have est : s' = v' := by
          funext c q
          by_cases hc : c = 83
          · rw [hc, hs, ov_83, x38, j3]
          · rw [hf c q hc, ov_o hc]
        rw [est, es, shd_J j1 j2]
        exact ⟨rfl, j1⟩
      · apply t_X5_lots <;> intros
        all_goals first | exact rn | exact rz | omega | skip
        refine Pw_mk ?_
        apply t_X6_lots <;> intros
        all_goals first | exact rn | exact rz | omega | exact ⟨rfl, h⟩
  · apply t_X5_lots <;> intros
    all_goals first | exact rn | exact rz | omega | skip
    all_goals refine Pw_mk ?_
    all_goals (apply t_X6_lots <;> intros)
    all_goals first | exact rn | exact rz | omega | exact ⟨rfl, h⟩
end OPJ2
