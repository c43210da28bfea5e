section OPN
variable {X : List Int32} {d : Nat} {s : m_St} {P : Option Value → m_St → Prop} {i r b x3 : Int}
theorem amn_up {g : Int → Int} {c : Int} (c0 : 1 ≤ c) : amn g c.toNat = if g c < g (amn g (c - 1).toNat) then c else amn g (c - 1).toNat := by
  rw [show c.toNat = (c - 1).toNat + 1 by omega]
  have e : (((c - 1).toNat : Nat) : Int) + 1 = c := by omega
  show (if g ((((c - 1).toNat : Nat) : Int) + 1) < g (amn g (c - 1).toNat) then (((c - 1).toNat : Nat) : Int) + 1 else amn g (c - 1).toNat) = _
  rw [e]
theorem test_C (hg : gok s (44 + 4 * i)) (i0 : 0 ≤ i) (i6 : i < 6) (kk : ∀ s', fr74 s s' → P (some (vI (amn (fun c => gpa b (mva s i c) 6) 3))) (m_upd s' 0 9 (gpa b (mva s i (amn (fun c => gpa b (mva s i c) 6) 3)) 6))) : Rn X (d + 7) 129 39 [some (vR 0), some (vI i), some (vI r), some (vI x3), some (vI b), some (vI 0), some (vI 7), some (vI 0), none] [] s P := by
  have loop : ∀ (m : Nat) (c : Int) (s1 : m_St) (z8 : Option Value), 1 ≤ c → c + m = 4 → fr74 s s1 → Rn X (d + 7) 129 39 [some (vR 0), some (vI i), some (vI r), some (vI x3), some (vI b), some (vI (amn (fun c => gpa b (mva s i c) 6) (c - 1).toNat)), some (vI (gpa b (mva s i (amn (fun c => gpa b (mva s i c) 6) (c - 1).toNat)) 6)), some (vI c), z8] [] s1 P := by
    intro m
    induction m with
    | zero =>
      intro c s1 z8 c0 cm hfr
      have : c = 4 := by omega
      subst this
      have hx := kk s1 hfr
      apply t_X5_test_39 i0 i6 <;> intros
      all_goals first | exact hx | omega
    | succ m ih =>
      intro c s1 z8 c0 cm hfr
      have gr := gpa_r (b := b) (f := mva s i (amn (fun c => gpa b (mva s i c) 6) (c - 1).toNat)) 6
      have ar := amn_r (g := fun c => gpa b (mva s i c) 6) (c - 1).toNat
      have up := amn_up (g := fun c => gpa b (mva s i c) 6) c0
      have em : mva s1 i c = mva s i c := funext fun k => mva_fr i0 i6 hfr
      have gr2 := gpa_r (b := b) (f := mva s i c) 6
      have hx := fun s2 z8 h2 => ih (c + 1) s2 z8 (by omega) (by omega) h2
      rw [show c + 1 - 1 = c by omega, up] at hx
      apply t_X5_test_39 i0 i6 <;> intros
      all_goals first | exact gok_fr i0 i6 hfr hg | omega | skip
      · next v3 s3 q =>
        rw [em] at q
        have := q.1
        omega
      · next v3 s3 q hle =>
        rw [em] at q
        obtain ⟨q1, q2⟩ := q
        subst q1
        rw [if_neg (by omega)] at hx
        exact hx s3 _ (hfr.trans q2)
      · next v3 s3 q hlt =>
        rw [em] at q
        obtain ⟨q1, q2⟩ := q
        subst q1
        rw [if_pos (by omega)] at hx
        exact hx s3 _ (hfr.trans q2)
  have gr2 := gpa_r (b := b) (f := mva s i 0) 6
  apply t_X5_test_39 i0 i6 <;> intros
  all_goals first | exact hg | omega | skip
  · next v3 s3 q hlt =>
    obtain ⟨q1, q2⟩ := q
    subst q1
    exact loop 3 1 s3 _ (by omega) (by omega) q2
theorem test_M (hk : mok s) (i0 : 0 ≤ i) (i1 : i < s 83 0) (rb : inR b) (k0 : b = 0 → P (some (vI (-9))) s) (k1 : ¬ b = 0 → P (some (vI (amn (fun c => alm b (mvM s i c) 5) 3))) (m_upd s 77 11 (alm b (mvM s i (amn (fun c => alm b (mvM s i c) 5) 3)) 5))) : Rn X (d + 3) 236 27 [some (vR 77), some (vI i), some (vI r), some (vI x3), some (vI b), some (vI 0), some (vI 1)] [] s P := by
  have loop : ∀ (m : Nat) (c : Int), 1 ≤ c → c + m = 4 → Rn X (d + 3) 236 27 [some (vR 77), some (vI i), some (vI r), some (vI x3), some (vI b), some (vI (amn (fun c => alm b (mvM s i c) 5) (c - 1).toNat)), some (vI c)] [] s P := by
    intro m
    induction m with
    | zero =>
      intro c c0 cm
      have : c = 4 := by omega
      subst this
      have ar := amn_r (g := fun c => alm b (mvM s i c) 5) (4 - 1 : Int).toNat
      have e3 : (4 - 1 : Int).toNat = 3 := rfl
      rw [e3] at ar ⊢
      apply t_X6_test_27 ar.1 (by omega) (by omega) <;> intros
      all_goals first | exact hk | exact k0 (by assumption) | exact k1 (by assumption) | omega
    | succ m ih =>
      intro c c0 cm
      have ar := amn_r (g := fun c => alm b (mvM s i c) 5) (c - 1).toNat
      have up := amn_up (g := fun c => alm b (mvM s i c) 5) c0
      have hx := ih (c + 1) (by omega) (by omega)
      rw [show c + 1 - 1 = c by omega, up] at hx
      apply t_X6_test_27 ar.1 (by omega) (by omega) <;> intros
      all_goals first | exact hk | omega | skip
      · next g1 g2 =>
        rw [if_neg (by omega)] at hx
        exact hx
      · next g1 g2 =>
        rw [if_pos (by omega)] at hx
        exact hx
  exact loop 3 1 (by omega) (by omega)
theorem kbs_inR (F : Int → Int) (n : Nat) : inR (kbs F n) := by
  induction n with
  | zero => exact inR_0
  | succ n ih2 =>
    show inR (if _ = 0 then _ else _)
    split
    · exact ih2
    · exact inR_iOr _ _
theorem op_test (h : J s) (ri : inR i) (rr : inR r) : Cl X (d + 20) 129 [vR 0, vI i, vI r] s (Pw X (d + 20) 236 [vR 77, vI i, vI r]) := by
  have h7 := J_7 h
  have hrk := J_rwk h
  have hg := h.v.1.2.2.2.2.2.1
  apply t_X5_test <;> intros
  all_goals first | exact ri | exact rr | exact hrk _ (by assumption) (by assumption) | omega | skip
  all_goals first | (next v1 s1 q => exact qTp_inR q) | skip
  all_goals first | (next v1 s1 q hv => exact (qTp_0 q hv).2.2.1) | (next v1 s1 q hv => exact (qTp_0 q hv).2.2.2.2.1) | (next v1 s1 q hv => exact (qTp_0 q hv).2.2.2.2.2.1) | (next v1 s1 q hv => have := (qTp_0 q hv).2.2.2.1; omega) | skip
  · next v1 s1 q hv =>
    obtain ⟨q1, q2, q3⟩ := qTp_0 q hv
    subst q1
    exact hg i q3.1 (by have := q3.2.1; omega)
  · next v1 s1 q hv =>
    obtain ⟨q1, q2, q3⟩ := qTp_0 q hv
    subst q1
    exact hrk r q3.2.2.1 q3.2.2.2.1
  · next v1 s1 q hv =>
    obtain ⟨q1, q2, q3⟩ := qTp_0 q hv
    subst q1
    exact q3.2.2.2.2.1
  · next v1 s1 q hv =>
    obtain ⟨q1, q2, q3⟩ := qTp_0 q hv
    subst q1
    exact q3.2.2.2.2.2.1
  · next v1 s1 q hv =>
    obtain ⟨q1, q2, q3⟩ := qTp_0 q hv
    subst q1
    exact q3.2.2.2.2.2.2
  · next v1 s1 q hv v3 s3 q3 => rw [q3.1]; exact kbs_inR _ _
  · next v1 s1 q hv v3 s3 q3 hz =>
    obtain ⟨q1, q2, i0, i1, r0, r6, _⟩ := qTp_0 q hv
    subst q1
    obtain ⟨q3, hf⟩ := q3
    have J3 := J_74 h hf
    have i6 : i < 6 := by omega
    refine test_C (gok_fr i0 i6 hf (hg i i0 i6)) i0 i6 (fun s' hf2 => ?_)
    have J4 := J_74 J3 hf2
    have hf4 := hf.trans hf2
    have h74 := J_7 J4
    have e0 : s' 83 0 = s1 83 0 := hf4 83 0 (by omega)
    generalize hl : gpa v3 (mva s3 i (amn (fun c => gpa v3 (mva s3 i c) 6) 3)) 6 = l
    have u_o : ∀ c j, ¬ c = 0 → m_upd s' 0 9 l c j = s' c j := fun c j hc => upd_nc hc
    have u83 : m_upd s' 0 9 l 83 = s' 83 := upd_fun (by decide)
    have hb' : ∀ v t, qBa (m_upd s' 0 9 l) i r v t → v = 0 ∧ t = m_upd s' 0 9 l ∧ atM (m_upd s' 0 9 l) r ∧ 0 ≤ s' 78 r ∧ s' 78 r ≤ 40 ∧ s' 78 r % 3 = 0 ∧ s1 2 r = s1 78 r := by
      intro v t hb
      have q' : qBa s' i r 0 s' := by
        rcases q2 with ⟨_, _, i0, i1, r0, r6, y2, y3, y4⟩ | ⟨y1, _⟩ | ⟨y1, _⟩
        · have hr := Jr_b (r := r) h r0 r6
          have e8 := hf4 78 r (by omega)
          exact Or.inl ⟨rfl, rfl, i0, by omega, r0, r6, by omega, by omega, (J_atr (t := s') h r0 r6 y3 (fun j => hf4 78 j (by omega)) (fun j => hf4 79 j (by omega))).mp y4⟩
        · omega
        · omega
      obtain ⟨_, _, _, _, _, _, y0, y4, y3, y2, ya⟩ := bar_yes h q2 hf4 q'
      have e8 := hf4 78 r (by omega)
      have u78 := u_o 78 r (by decide)
      have u0 := u_o 83 0 (by decide)
      have ya' : atM (m_upd s' 0 9 l) r := ya
      rcases hb with ⟨b1, b2, _⟩ | ⟨b1, b2, b3⟩ | ⟨b1, _, _, _, _, b7⟩
      · exact ⟨b1, b2, ya', by omega, by omega, by omega, y2⟩
      · exfalso; omega
      · exfalso
        rcases b7 with ⟨_, b8⟩ | ⟨_, b8, b9⟩ | ⟨_, _, _, b8⟩
        · omega
        · omega
        · exact b8 ya'
    have hmok : mok (m_upd s' 0 9 l) := by
      unfold mok
      rw [u83, upd_nc (by decide)]
      exact J4.v.2
    have efi : ∀ k, pb (fiA s1 i r k) = pb (fiM (m_upd s' 0 9 l) i r k) := fun k => by
      have z3 : s' 2 r % 3 = 0 := by
        rcases q2 with ⟨_, _, _, _, _, _, _, y3, _⟩ | ⟨y1, _⟩ | ⟨y1, _⟩
        · rw [hf4 2 r (by omega)]; exact y3
        · omega
        · omega
      have := (fiA_fr (k := k) i0 i6 r0 r6 hf4).symm.trans (J_fiA (k := k) J4 i0 (by omega) r0 r6 z3)
      exact pb_iff this
    refine Pw_mk ?_
    apply t_X6_test <;> intros
    all_goals first | exact ri | exact rr | exact J_rwM J4 (fun _ => rfl) (fun _ => rfl) _ (by assumption) (by assumption) | (rw [u_o 83 0 (by decide)]; omega) | skip
    all_goals first | (next v t hb => exact qBa_inR hb) | skip
    all_goals first | (next v t hb hv0 => exact absurd (hb' _ _ hb).1 hv0) | skip
    all_goals first | (next v t hb hv0 v4 s4 h4 =>
                        obtain ⟨b1, b2, ba, _⟩ := hb' _ _ hb
                        subst b2
                        obtain ⟨h4, hf8⟩ := h4
                        have e34 : v4 = v3 := by rw [h4, q3]; exact (kbs_cong 6 efi).symm
                        have J8 : J (m_upd s4 0 9 (s' 0 9)) := J_80 (s := s') J4 (fun c j hc => by
                          by_cases h09 : c = 0 ∧ j = 9
                          · rw [h09.1, h09.2, upd_eq]
                          · rw [upd_o2 h09, hf8 c j hc, upd_o2 h09])
                        have s483 : s4 83 = s' 83 := funext fun j => by rw [hf8 83 j (by decide), upd_nc (by decide)]
                        have mvE : ∀ c k, mvM s4 i c k = mva s3 i c k := fun c k => by
                          have : mvM s4 i c k = mvM s' i c k := by
                            unfold mvM
                            rw [s483, hf8 38 5 (by decide), upd_nc (by decide)]
                          rw [this, ← J_mva J4 i0 (by omega), mva_fr i0 i6 hf2]
                        have gE : ∀ c, alm v4 (mvM s4 i c) 5 = gpa v3 (mva s3 i c) 6 := fun c => by
                          rw [e34, show mvM s4 i c = mva s3 i c from funext fun k => mvE c k]
                          exact (gpa_alm fun q => mv_r _ _ _ _).symm
                        have gF : (fun c => alm v4 (mvM s4 i c) 5) = fun c => gpa v3 (mva s3 i c) 6 := funext gE
                        refine test_M (fr80_mok hmok hf8) i0 (by rw [s483]; omega) (by rw [h4]; exact kbs_inR _ _) (fun z => absurd (e34.symm.trans z) hz) (fun _ => ?_)
                        rw [gF, gE, hl]
                        refine ⟨rfl, ?_⟩
                        have J9 := J_tell (v := l) J8 rfl
                        rw [upd2] at J9
                        have es : m_upd s4 0 9 l = s4 := by
                          funext c j
                          by_cases h09 : c = 0 ∧ j = 9
                          · rw [h09.1, h09.2, upd_eq, hf8 0 9 (by decide), upd_eq]
                          · rw [upd_o2 h09]
                        rw [es] at J9
                        exact J9) | skip
    all_goals (next v t hb hv0 =>
                obtain ⟨b1, b2, ba, y0, y4, y3, y2⟩ := hb' _ _ hb
                subst b2
                have u78 := u_o 78 r (by decide)
                have u0 := u_o 83 0 (by decide)
                first | exact hmok | exact i0 | exact r0 | exact r6 | exact ba | omega)
  · next v1 s1 q hv v3 s3 q3 hz =>
    obtain ⟨q1, q2, _⟩ := qTp_0 q hv
    subst q1
    obtain ⟨q3, hf⟩ := q3
    have J3 := J_74 h hf
    have h73 := J_7 J3
    have e0 : s3 83 0 = s1 83 0 := hf 83 0 (by omega)
    refine Pw_mk ?_
    apply t_X6_test <;> intros
    all_goals first | exact ri | exact rr | exact J_rwM J3 (fun _ => rfl) (fun _ => rfl) _ (by assumption) (by assumption) | omega | skip
    all_goals first | (next v s' hb => exact qBa_inR hb) | skip
    all_goals first | (next v s' hb hv0 => exact absurd (bar_yes h q2 hf hb).1 hv0) | skip
    all_goals first | (next v s' hb hv0 v4 s4 h4 =>
                        obtain ⟨b1, b2, i0, i1, r0, r6, z0, z4, z3, z2, ba⟩ := bar_yes h q2 hf hb
                        subst b2
                        obtain ⟨h4, hf4⟩ := h4
                        have e34 : v4 = v3 := by
                          rw [h4, q3]
                          rw [kbs_cong 6 (fun k => pb_iff ((fiA_fr i0 (by omega) r0 r6 hf).symm.trans (J_fiA (k := k) J3 i0 (by omega) r0 r6 (by rw [hf 2 r (by omega)]; omega))))]
                        exact test_M (fr80_mok J3.v.2 hf4) i0 (by rw [hf4 83 0 (by decide)]; omega) (by rw [h4]; exact kbs_inR _ _) (fun _ => ⟨rfl, J_80 J3 hf4⟩) (fun z => absurd (e34.trans hz) z)) | skip
    all_goals (next v s' hb hv0 =>
                obtain ⟨b1, b2, i0, i1, r0, r6, z0, z4, z3, z2, ba⟩ := bar_yes h q2 hf hb
                subst b2
                have e8 := hf 78 r (by omega)
                first | exact J3.v.2 | exact ba | omega)
  · next v1 s1 q hv =>
    have fz : s1 83 0 = s 83 0 ∧ (∀ j, s1 78 j = s 78 j) ∧ (∀ j, s1 79 j = s 79 j) := by
      rcases q with ⟨_, q2, _⟩ | ⟨_, q2, _⟩ | ⟨_, _, _, _, _, q2⟩
      · rw [q2]; exact ⟨rfl, fun _ => rfl, fun _ => rfl⟩
      · rw [q2]; exact ⟨rfl, fun _ => rfl, fun _ => rfl⟩
      · rcases q2 with ⟨q2, _⟩ | ⟨q2, _⟩ | ⟨q2, _⟩
        all_goals (rw [q2]; exact ⟨fnd_o (by decide) (by decide), fun _ => fnd_o (by decide) (by decide), fun _ => fnd_o (by decide) (by decide)⟩)
    obtain ⟨fz0, fz8, fz9⟩ := fz
    refine Pw_mk ?_
    apply t_X6_test <;> intros
    all_goals first | exact ri | exact rr | exact J_rwM h fz8 fz9 _ (by assumption) (by assumption) | omega | skip
    all_goals first | (next v s' hb => exact qBa_inR hb) | skip
    all_goals first | (next v s' hb hv0 => exact absurd ((bar_no h q hv hb).1.symm.trans hv0) hv) | skip
    all_goals first | (next v s' hb hv0 =>
                        obtain ⟨b1, b2⟩ := bar_no h q hv hb
                        exact ⟨by rw [b1], b2⟩) | skip
    all_goals (next v s' hb hv0 v4 s4 h4 => exact absurd ((bar_no h q hv hb).1.symm.trans hv0) hv)
end OPN
