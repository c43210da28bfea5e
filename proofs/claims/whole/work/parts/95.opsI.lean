/-! calls side by side: taking back, keeping, going on -/
def bkf (m : Int → Int) (d k : Int) : Int → Int := fun j => if d < 8 then (if j = 4 then m 4 - 1 else if j = 1 then m 1 + 1 else if j = m (38 + 4 * k + 1) then m (38 + 4 * k + 2) else m j) else if d = 8 then (if j = 1 then m (38 + 4 * k + 1) else m j) else (if j = 6 then m (38 + 4 * k + 2) else if j = 5 then m (38 + 4 * k + 1) else m j)
theorem HM_note {R : Int} {b ds m : Int → Int} {k : Int} (hb : hok b) (h : HM R b ds (k + 1) (setf m 3 (k + 1))) (k0 : 0 ≤ k) : note m k.toNat (ds k) (hst R b ds k.toNat) ∧ dok (hst R b ds k.toNat) (ds k) ∧ hok (hst R b ds k.toNat) ∧ hst R b ds k.toNat 0 = b 0 := by
  obtain ⟨n0, n4, m3, m4, mt, hds, hv, hn⟩ := h
  have hd' : ∀ i : Nat, i < k.toNat + 1 → dok (hst R b ds i) (ds i) := fun i hi => hds i (by omega)
  have h1 := hn k.toNat (by omega)
  have h2 := hds k.toNat (by omega)
  have ek : ((k.toNat : Nat) : Int) = k := by omega
  rw [ek] at h1 h2
  refine ⟨?_, h2, hst_ok hb hd' _ (by omega), hst_k hb hd' (Or.inl rfl) _ (by omega)⟩
  unfold note at h1 ⊢
  rw [setf_o (by omega), setf_o (by omega), setf_o (by omega)] at h1
  exact h1
theorem HM_back {R : Int} {b ds m m' : Int → Int} {k : Int} (hb : hok b) (h : HM R b ds (k + 1) (setf m 3 (k + 1))) (k0 : 0 ≤ k) (em : ∀ j, 0 ≤ j → j < 198 → m' j = bkf m (ds k) k j) : HM R b ds k (setf m' 3 k) := by
  obtain ⟨hnote, hd, hh, h0⟩ := HM_note hb h k0
  obtain ⟨n0, n4, m3, m4, mt, hds, hv, hn⟩ := h
  have ek : ((k.toNat : Nat) : Int) = k := by omega
  have en : (k + 1).toNat = k.toNat + 1 := by omega
  have h06 := hh.2.1
  have hb6 := hb.2.1
  have hd0 := hd.1
  unfold note at hnote
  rw [ek] at hnote
  obtain ⟨c1, c2, c3⟩ := hnote
  have hA : ds k < 8 → 9 ≤ m (38 + 4 * k + 1) ∧ m (38 + 4 * k + 1) < 38 := fun h8 => by
    obtain ⟨r0, r1⟩ := hrr_r hh hd h8
    rw [(c1 h8).2.1]
    omega
  -- places that no deed's undoing touches
  have far : ∀ j, 0 ≤ j → j < 198 → (38 ≤ j ∨ j = 7) → m' j = m j := fun j j0 j1 hj3 => by
    rw [em j j0 j1]
    unfold bkf
    by_cases h8 : ds k < 8
    · have := hA h8
      rw [if_pos h8, if_neg (by omega), if_neg (by omega), if_neg (by omega)]
    · rw [if_neg h8]
      by_cases h9 : ds k = 8
      · rw [if_pos h9, if_neg (by omega)]
      · rw [if_neg h9, if_neg (by omega), if_neg (by omega)]
  refine ⟨k0, by omega, setf_e, ?_, ?_, fun i hi => hds i (by omega), fun j hjj => ?_, fun i hi => ?_⟩
  · rw [setf_o (by decide)] at m4 ⊢
    rw [en] at m4
    have m4' : m 4 = sayn ds k.toNat + (if ds k < 8 then 1 else 0) := by
      rw [m4]
      unfold sayn
      rw [sm_s, ek]
    rw [em 4 (by decide) (by decide)]
    unfold bkf
    by_cases h8 : ds k < 8
    · rw [if_pos h8, if_pos rfl, m4', if_pos h8]
      omega
    · rw [if_neg h8] at m4' ⊢
      by_cases h9 : ds k = 8
      · rw [if_pos h9, if_neg (by decide)]
        omega
      · rw [if_neg h9, if_neg (by decide), if_neg (by decide)]
        omega
  · rw [setf_o (by decide)] at mt ⊢
    rw [far 7 (by decide) (by decide) (Or.inr rfl)]
    exact mt
  · have hj2 := hjj
    unfold hj at hj2
    rw [setf_o (by omega), em j (by omega) (by omega)]
    have hmj : m j = stp R (hst R b ds k.toNat) (ds k) j := by
      have := hv j hjj
      rw [setf_o (by omega), en] at this
      rw [this]
      show stp R (hst R b ds k.toNat) (ds ((k.toNat : Nat) : Int)) j = _
      rw [ek]
    unfold bkf
    by_cases h8 : ds k < 8
    · have hA8 := hA h8
      obtain ⟨q1, q2, q3⟩ := c1 h8
      unfold stp at hmj
      rw [if_pos h8] at hmj
      rw [if_pos h8, if_neg (by omega)]
      by_cases j1 : j = 1
      · subst j1
        rw [setf_e] at hmj
        rw [if_pos rfl, hmj]
        omega
      · rw [if_neg j1]
        rw [setf_o j1] at hmj
        by_cases jA : j = m (38 + 4 * k + 1)
        · rw [if_pos jA, q3, jA, q2]
        · rw [if_neg jA, hmj, setf_o (by rw [← q2]; exact jA)]
    · rw [if_neg h8]
      unfold stp at hmj
      rw [if_neg h8] at hmj
      by_cases h9 : ds k = 8
      · rw [if_pos h9] at hmj ⊢
        by_cases j1 : j = 1
        · rw [if_pos j1, (c2 h9).2, j1]
        · rw [if_neg j1, hmj, setf_o j1]
      · rw [if_neg h9] at hmj ⊢
        obtain ⟨q1, q2, q3⟩ := c3 (by omega)
        by_cases j6 : j = 6
        · rw [if_pos j6, q3, j6]
        · rw [if_neg j6]
          rw [setf_o j6] at hmj
          by_cases j5 : j = 5
          · rw [if_pos j5, q2, j5]
          · rw [if_neg j5, hmj, setf_o j5]
  · have h1 := hn i (by omega)
    unfold note at h1 ⊢
    rw [setf_o (by omega), setf_o (by omega), setf_o (by omega)] at h1 ⊢
    rw [far _ (by omega) (by omega) (Or.inl (by omega)), far _ (by omega) (by omega) (Or.inl (by omega)), far _ (by omega) (by omega) (Or.inl (by omega))]
    exact h1
/-- undoing, deed by deed -/
theorem undo_loop {X : List Int32} {d : Nat} {P : Option Value → m_St → Prop} {R : Int} {b ds : Int → Int} {n v : Int} (hb : hok b) (n0 : 0 ≤ n) (rv : inR v) : ∀ (mm : Nat) (k : Int) (s : m_St), k = n + mm - 1 → HM R b ds (k + 1) (setf (s 83) 3 (k + 1)) → (∀ s', (∀ c j, ¬ c = 83 → s' c j = s c j) → HM R b ds n (s' 83) → P (some (vI v)) s') → Rn X (d + 1) 211 34 [some (vR 77), some (vI n), some (vI v), some (vI k)] [] s P := by
  intro mm
  induction mm with
  | zero =>
    intro k s hk hm hp
    have n4 := hm.2.1
    have e83 : m_upd s 83 3 n 83 = setf (s 83) 3 n := by
      funext j
      unfold m_upd setf
      by_cases hj : j = 3
      · rw [if_pos ⟨rfl, hj⟩, if_pos hj]
      · rw [if_neg (fun z => hj z.2), if_neg hj]
    have hp2 := hp (m_upd s 83 3 n) (fun c j hc => upd_nc hc) (by rw [e83, show n = k + 1 by omega]; exact hm)
    apply t_X6_undo_34 <;> intros
    all_goals first | omega | exact hp2
  | succ mm ih =>
    intro k s hk hm hp
    have n4 := hm.2.1
    have k0 : 0 ≤ k := by omega
    have ek : ((k.toNat : Nat) : Int) = k := by omega
    obtain ⟨hnote, hd, hh, h0⟩ := HM_note hb hm k0
    unfold note at hnote
    rw [ek] at hnote
    obtain ⟨c1, c2, c3⟩ := hnote
    have hd0 := hd.1
    have h06 := hh.2.1
    have step : ∀ s', (∀ c j, ¬ c = 83 → s' c j = s c j) → (∀ j, 0 ≤ j → j < 198 → s' 83 j = bkf (s 83) (ds k) k j) → Rn X (d + 1) 211 34 [some (vR 77), some (vI n), some (vI v), some (vI (k + (-1)))] [] s' P := by
      intro s' hf hj
      refine ih (k + (-1)) s' (by omega) ?_ (fun s2 hf2 hm2 => hp s2 (fun c j hc => by rw [hf2 c j hc, hf c j hc]) hm2)
      rw [show k + (-1) + 1 = k by omega]
      exact HM_back hb hm k0 hj
    by_cases h8 : ds k < 8
    · obtain ⟨q1, q2, q3⟩ := c1 h8
      obtain ⟨r0, r1⟩ := hrr_r hh hd h8
      apply t_X6_undo_34 <;> intros
      all_goals first | omega | skip
      refine step _ (fun c j hc => by rw [upd_nc hc, upd_nc hc, upd_nc hc]) (fun j j0 j1 => ?_)
      unfold bkf
      rw [if_pos h8]
      by_cases j4 : j = 4
      · rw [j4, upd_eq, if_pos rfl, upd_nj (by omega)]
      · rw [upd_nj j4, if_neg j4]
        by_cases j1 : j = 1
        · rw [j1, upd_eq, if_pos rfl, upd_nj (by omega)]
        · rw [upd_nj j1, if_neg j1]
          by_cases jA : j = s 83 (38 + 4 * k + 1)
          · rw [jA, upd_eq, if_pos rfl]
          · rw [upd_nj jA, if_neg jA]
    · by_cases h9 : ds k = 8
      · obtain ⟨q1, q2⟩ := c2 h9
        apply t_X6_undo_34 <;> intros
        all_goals first | omega | skip
        refine step _ (fun c j hc => by rw [upd_nc hc]) (fun j j0 j1 => ?_)
        unfold bkf
        rw [if_neg h8, if_pos h9]
        by_cases j1 : j = 1
        · rw [j1, upd_eq, if_pos rfl]
        · rw [upd_nj j1, if_neg j1]
      · obtain ⟨q1, q2, q3⟩ := c3 (by omega)
        apply t_X6_undo_34 <;> intros
        all_goals first | omega | skip
        refine step _ (fun c j hc => by rw [upd_nc hc, upd_nc hc]) (fun j j0 j1 => ?_)
        unfold bkf
        rw [if_neg h8, if_neg h9]
        by_cases j6 : j = 6
        · rw [j6, upd_eq, if_pos rfl, upd_nj (by omega)]
        · rw [upd_nj j6, if_neg j6]
          by_cases j5 : j = 5
          · rw [j5, upd_eq, if_pos rfl]
          · rw [upd_nj j5, if_neg j5]
/-- the hut of the class after going back, beside one of the reference -/
theorem J_back {s t : m_St} {n : Int} {ds : Int → Int} (h : J s) (s1 : m_St) (e1 : ∀ c j, ¬ c = 41 → s1 c j = s c j) (e41 : ∀ j, 0 ≤ j → j < n → s1 41 j = ds j) (hm : HM (s 38 5) (hbase s) ds n (t 83)) (e : ∀ c j, ¬ c = 83 → t c j = gb s1 n c j) : bok s1 ∧ gdok s1 n ∧ gb s1 n 38 9 = n ∧ gb s1 n 83 = s 83 ∧ J t := by
  obtain ⟨a1, a2, a3, a4, a5, a6⟩ := h
  obtain ⟨hb, hm0, hr⟩ := a4
  obtain ⟨n0, n4, m3, m4, mt, hds, hv, hn⟩ := hm
  have hm : HM (s 38 5) (hbase s) ds n (t 83) := ⟨n0, n4, m3, m4, mt, hds, hv, hn⟩
  have hbo := hbase_ok hb
  have hb1 : bok s1 := by
    unfold bok aok at hb ⊢
    rw [e1 38 3 (by decide), e1 38 4 (by decide)]
    obtain ⟨b1, b2, b3, b4, b5, b6⟩ := hb
    refine ⟨b1, b2, b3, b4, fun i i0 i1 => ?_, fun i i0 i6 => gok_cong (fun j => e1 _ _ (by omega)) (fun j => e1 _ _ (by omega)) (b6 i i0 i6)⟩
    obtain ⟨y1, y2, y3⟩ := b5 i i0 i1
    rw [e1 (42 + 4 * i) 1 (by omega)]
    refine ⟨y1, y2, fun c c0 c1 => ?_⟩
    rw [e1 (42 + 4 * i + 1) c (by omega)]
    exact y3 c c0 c1
  have eb1 : ∀ j, j < 38 → hbase s1 j = hbase s j := hbase_cong (fun c j hc => by unfold uB at hc; exact e1 c j (by omega)) hb.1
  have s15 : s1 38 5 = s 38 5 := e1 38 5 (by decide)
  have hdn : ∀ k : Nat, k < n.toNat → dok (hst (s 38 5) (hbase s) ds k) (ds k) := fun k hk => hds k (by omega)
  have hcc := hst_cong (R := s 38 5) (b := hbase s) (b' := hbase s1) (ds := ds) (ds' := s1 41) (n := n.toNat) eb1 (fun k hk => e41 k (by omega) (by omega)) hbo hdn
  have hgd : gdok s1 n := fun k hk => by
    rw [s15, e41 k (by omega) (by omega)]
    exact dok_cong (hcc k (by omega)) (hds k hk)
  obtain ⟨g1, g2, g3⟩ := gb_rep hb1 n0 n4 hgd
  have g83 : gb s1 n 83 = s 83 := funext fun j => by rw [g2 83 j (by unfold hcell; omega), e1 83 j (by decide)]
  have fr : ∀ c j, ¬ hcell c j → ¬ c = 41 → ¬ c = 83 → t c j = s c j := fun c j h1 h2 h3 => by rw [e c j h3, g2 c j h1, e1 c j h2]
  have t5 : t 38 5 = s 38 5 := fr 38 5 (by unfold hcell; omega) (by decide) (by decide)
  have t9 : t 38 9 = n := by rw [e 38 9 (by decide), g3]
  have ebt : ∀ j, j < 38 → hbase t j = hbase s j := hbase_cong (fun c j hc => by unfold uB at hc; exact fr c j (by unfold hcell; omega) (by omega) (by omega)) hb.1
  have et41 : ∀ j, 0 ≤ j → j < n → t 41 j = ds j := fun j j0 j1 => by rw [e 41 j (by decide), g2 41 j (by unfold hcell; omega)]; exact e41 j j0 j1
  have hho := hst_ok hbo hdn _ (Nat.le_refl _)
  refine ⟨hb1, hgd, g3, g83, ?_, ?_, ?_, ⟨?_, ?_, ?_⟩, ?_, ?_⟩
  · exact Jr_cong (fun c j hc => by unfold uR at hc; exact fr c j (by unfold hcell; omega) (by omega) (by omega)) a1
  · exact Jt_cong (fun c j hc => by unfold uT at hc; exact fr c j (by unfold hcell; omega) (by omega) (by omega)) a2
  · exact Jf_cong (fun c j hc => by unfold uF at hc; exact fr c j (by unfold hcell; omega) (by omega) (by omega)) a3
  · unfold bok aok at hb ⊢
    rw [fr 38 3 (by unfold hcell; omega) (by decide) (by decide), fr 38 4 (by unfold hcell; omega) (by decide) (by decide)]
    obtain ⟨b1, b2, b3, b4, b5, b6⟩ := hb
    refine ⟨b1, b2, b3, b4, fun i i0 i1 => ?_, fun i i0 i6 => gok_cong (fun j => e _ _ (by omega)) (fun j => e _ _ (by omega)) (g1.2.2.2.2.2.1 i i0 i6)⟩
    obtain ⟨y1, y2, y3⟩ := b5 i i0 i1
    rw [fr (42 + 4 * i) 1 (by unfold hcell; omega) (by omega) (by omega)]
    refine ⟨y1, y2, fun c c0 c1 => ?_⟩
    rw [fr (42 + 4 * i + 1) c (by unfold hcell; omega) (by omega) (by omega)]
    exact y3 c c0 c1
  · rw [t5, t9]
    exact HM_cong ebt et41 (fun _ _ _ => rfl) hbo hm
  · rw [t5, t9]
    have hct := hst_cong (R := s 38 5) (b := hbase s) (b' := hbase t) (ds := ds) (ds' := t 41) (n := n.toNat) ebt (fun k hk => et41 k (by omega) (by omega)) hbo hdn _ (Nat.le_refl _)
    have hc1 := hcc _ (Nat.le_refl _)
    have hh1 := hok_cong hc1 hho
    rw [s15] at g1
    exact rep_cong (fun c j hc => by unfold uH0 at hc; exact e c j (by omega)) (fun j hj38 => by rw [hct j hj38, hc1 j hj38]) hh1 g1
  · exact Jk_cong (fun c j hc => by unfold uK uB at hc; exact fr c j (by unfold hcell; omega) (by omega) (by omega)) hb a5
  · exact Jg_cong (fun c j hc => by unfold uG at hc; exact fr c j (by unfold hcell; omega) (by omega) (by omega)) a6
theorem HM_pre {R : Int} {b ds m : Int → Int} {n : Int} (h : HM R b ds n m) : ∀ k : Nat, (k : Int) < n → dok (hst R b ds k) (ds k) := h.2.2.2.2.2.1
section OPI
variable {X : List Int32} {d : Nat} {s : m_St} {i j k z n : Int}
theorem op_undo (h : J s) (rn : inR n) : Cl X (d + 20) 91 [vR 0, vI n] s (Pw X (d + 20) 211 [vR 77, vI n]) := by
  have h9 := J_9 h
  obtain ⟨hb, hm, hr⟩ := h.2.2.2.1
  have hg : n ≤ s 38 9 → gdok s n := fun hn k hk => HM_pre hm k (by omega)
  apply t_X5_undo <;> intros
  all_goals first | exact rn | omega | exact hb | exact hg (by assumption) | skip
  · refine Pw_mk ?_
    apply t_X6_undo <;> intros
    all_goals first | exact rn | omega | exact ⟨rfl, h⟩
  · next n0 n1 =>
    obtain ⟨g1, g2, g3⟩ := gb_rep hb n0 (by omega) (hg n1)
    have e83 : gb s n 83 = s 83 := funext fun q => g2 83 q (by unfold hcell; omega)
    have e3 : gb s n 83 3 = s 83 3 := by rw [e83]
    refine Pw_mk ?_
    apply t_X6_undo <;> intros
    all_goals first | exact rn | omega | skip
    refine undo_loop (R := s 38 5) (b := hbase s) (ds := s 41) (hbase_ok hb) n0 (by omega) (s 38 9 - n).toNat _ _ (by omega) ?_ (fun s' hf hm' => ?_)
    · rw [e83]
      have : setf (s 83) 3 (s 38 9) = s 83 := by
        funext q
        unfold setf
        by_cases hq : q = 3
        · rw [if_pos hq, hq]; omega
        · rw [if_neg hq]
      rw [show s 83 3 - 1 + 1 = s 38 9 by omega, this]
      exact hm
    · refine ⟨by rw [show gb s n 83 3 - n = s 38 9 - n by omega], ?_⟩
      exact (J_back h s (fun _ _ _ => rfl) (fun _ _ _ => rfl) hm' hf).2.2.2.2
  · refine Pw_mk ?_
    apply t_X6_undo <;> intros
    all_goals first | exact rn | omega | exact ⟨rfl, h⟩
theorem op_on (h : J s) (rk : inR k) : Cl X (d + 20) 95 [vR 0, vI k] s (Pw X (d + 20) 214 [vR 77, vI k]) := by
  have hk := h.2.2.2.2.1.2 k
  have e1 := fnd78 (s := s) (c := 86) (a := k) 1 (by decide) (by decide)
  by_cases hb : 0 ≤ k ∧ k < 3
  · obtain ⟨k0, k3⟩ := hb
    obtain ⟨c1, c2, c3, c4⟩ := hk k0 k3
    by_cases hz : s 18 k = -1
    · have c3 := c3 hz
      clear c4
      apply t_X5_on <;> intros
      all_goals first | exact rk | omega | skip
      refine Pw_mk ?_
      apply t_X6_on <;> intros
      all_goals first | exact rk | omega | exact ⟨rfl, J_fnd h (by decide) (by decide)⟩
    · obtain ⟨c5, hm⟩ := c4 hz
      clear c3 c4
      have jb := fun (t : m_St) (hm' : HM (s 38 5) (hbase s) (s (20 + k)) (s 18 k) (t 83)) (e : ∀ c j, ¬ c = 83 → t c j = gof s k c j) => J_back (s := s) (t := t) (n := s 18 k) (ds := s (20 + k)) h (cpf s 41 (s 18 k) (s (20 + k))) (fun c j hc => cpf_o hc) (fun j j0 j1 => cpf_in j0 j1) hm' e
      have jt := jb (fun c j => if c = 83 then s 85 (198 * k + j) else gof s k c j) (by
        show HM _ _ _ _ (fun j => if (83 : Int) = 83 then s 85 (198 * k + j) else gof s k 83 j)
        have : (fun j => if (83 : Int) = 83 then s 85 (198 * k + j) else gof s k 83 j) = fun j => s 85 (198 * k + j) := funext fun j => if_pos rfl
        rw [this]
        exact hm) (fun c j hc => if_neg hc)
      obtain ⟨hb1, hgd, g9, g83, _⟩ := jt
      obtain ⟨g1, g2, g3⟩ := gb_rep hb1 (by omega) c2 hgd
      have e85 : ∀ j, gof s k 85 j = s 85 j := fun j => by
        show gb _ _ 85 j = _
        rw [g2 85 j (by unfold hcell; omega), cpf_o (by decide)]
      have e86 : gof s k 86 k = s 86 k := by
        show gb _ _ 86 k = _
        rw [g2 86 k (by unfold hcell; omega), cpf_o (by decide)]
      have m3 : s 85 (198 * k + 3) = s 18 k := hm.2.2.1
      have ej : ∀ j, 0 ≤ j → j < 198 → rwr (gof s k) 83 0 198 (fun y => gof s k 85 (198 * k + y)) 83 j = s 85 (198 * k + j) := fun j j0 j1 => by rw [rwr_in (by omega), e85, show 198 * k + (j - 0) = 198 * k + j by omega]
      have hmt : HM (s 38 5) (hbase s) (s (20 + k)) (s 18 k) (rwr (gof s k) 83 0 198 (fun y => gof s k 85 (198 * k + y)) 83) := HM_cong (fun _ _ => rfl) (fun _ _ _ => rfl) ej (hbase_ok h.2.2.2.1.1) hm
      have Jt' := (jb _ hmt (fun c j hc => rwr_nc hc)).2.2.2.2
      have v9 : gof s k 38 9 = s 18 k := g9
      apply t_X5_on <;> intros
      all_goals first | exact rk | exact hb1 | exact hgd | omega | skip
      refine Pw_mk ?_
      apply t_X6_on <;> intros
      all_goals first | exact rk | omega | skip
      exact ⟨by rw [ej 3 (by decide) (by decide), m3, v9], Jt'⟩
  · apply t_X5_on <;> intros
    all_goals first | exact rk | omega | skip
    all_goals refine Pw_mk ?_
    all_goals (apply t_X6_on <;> intros)
    all_goals first | exact rk | omega | exact ⟨rfl, h⟩
theorem kpi_o {c j : Int} (h : ¬ c = 20 + k) (h2 : ¬ (c = 18 ∧ j = k)) : kpi s k c j = s c j := by
  unfold kpi
  rw [cpf_o h, fil_o (by omega), upd_o2 h2]
theorem op_keep (h : J s) (rk : inR k) : Cl X (d + 20) 93 [vR 0, vI k] s (Pw X (d + 20) 213 [vR 77, vI k]) := by
  have h7 := J_7 h
  have h9 := J_9 h
  have h17 := h.2.2.2.2.1.1
  have hm := h.2.2.2.1.2.1
  apply t_X5_keep <;> intros
  all_goals first | exact rk | omega | exact h17 | skip
  · refine Pw_mk ?_
    apply t_X6_keep <;> intros
    all_goals first | exact rk | omega | exact ⟨rfl, h⟩
  · refine Pw_mk ?_
    apply t_X6_keep <;> intros
    all_goals first | exact rk | omega | exact ⟨rfl, h⟩
  · next k0 k3 hz =>
    have e0 : kpi s k 83 0 = s 83 0 := kpi_o (by omega) (by omega)
    have e9 : kpi s k 38 9 = s 38 9 := kpi_o (by omega) (by omega)
    have e3 : kpi s k 83 3 = s 83 3 := kpi_o (by omega) (by omega)
    have fo : ∀ c j, ¬ c = 20 + k → ¬ (c = 18 ∧ j = k) → ¬ (c = 85 ∧ 198 * k ≤ j ∧ j < 198 * k + 198) → ¬ (c = 86 ∧ j = k) → m_upd (rwr (kpi s k) 85 (198 * k) 198 (fun y => kpi s k 83 (0 + y))) 86 k 1 c j = s c j := fun c j h1 h2 h3 h4 => by rw [upd_o2 h4, rwr_o h3, kpi_o h1 h2]
    refine Pw_mk ?_
    apply t_X6_keep <;> intros
    all_goals first | exact rk | omega | skip
    obtain ⟨a1, a2, a3, a4, a5, a6⟩ := h
    refine ⟨by rw [rwr_nc (by decide), e3, e9]; rw [h9.1], ?_, ?_, ?_, ?_, ?_, ?_⟩
    · exact Jr_cong (fun c j hc => by unfold uR at hc; exact fo c j (by omega) (by omega) (by omega) (by omega)) a1
    · exact Jt_cong (fun c j hc => by unfold uT at hc; exact fo c j (by omega) (by omega) (by omega) (by omega)) a2
    · exact Jf_cong (fun c j hc => by unfold uF at hc; exact fo c j (by omega) (by omega) (by omega) (by omega)) a3
    · exact Jh_cong (fun c j hc => by unfold uH at hc; exact fo c j (by omega) (by omega) (by omega) (by omega)) a4
    · obtain ⟨b1, b2⟩ := a5
      have hbb := hbase_cong (s := s) (t := m_upd (rwr (kpi s k) 85 (198 * k) 198 (fun y => kpi s k 83 (0 + y))) 86 k 1) (fun c j hc => by unfold uB at hc; exact fo c j (by omega) (by omega) (by omega) (by omega)) a4.1.1
      refine ⟨by rw [fo 17 2 (by omega) (by omega) (by omega) (by omega)]; exact b1, fun q q0 q3 => ?_⟩
      rw [fo 38 5 (by omega) (by omega) (by omega) (by omega)]
      by_cases hq : q = k
      · subst hq
        have e18 : m_upd (rwr (kpi s q) 85 (198 * q) 198 (fun y => kpi s q 83 (0 + y))) 86 q 1 18 q = s 38 9 := by
          rw [upd_nc (by decide), rwr_nc (by decide)]
          unfold kpi
          rw [cpf_o (by omega), fil_o (by omega), upd_eq]
        rw [e18, upd_eq]
        refine ⟨by omega, by omega, fun z => by omega, fun _ => ⟨rfl, ?_⟩⟩
        refine HM_cong hbb (fun i i0 i1 => ?_) (fun j j0 j1 => ?_) (hbase_ok a4.1) hm
        · rw [upd_nc (by omega), rwr_nc (by omega)]
          unfold kpi
          rw [cpf_in i0 i1]
        · rw [upd_nc (by decide), rwr_in (by omega), kpi_o (by omega) (by omega), show 0 + (198 * q + j - 198 * q) = j by omega]
      · obtain ⟨c1, c2, c3, c4⟩ := b2 q q0 q3
        rw [fo 18 q (by omega) (by omega) (by omega) (by omega), fo 86 q (by omega) (by omega) (by omega) (by omega)]
        refine ⟨c1, c2, c3, fun hz => ?_⟩
        obtain ⟨d1, d2⟩ := c4 hz
        exact ⟨d1, HM_cong hbb (fun i i0 i1 => fo _ _ (by omega) (by omega) (by omega) (by omega)) (fun j j0 j1 => fo 85 _ (by omega) (by omega) (by omega) (by omega)) (hbase_ok a4.1) d2⟩
    · exact Jg_cong (fun c j hc => by unfold uG at hc; exact fo c j (by omega) (by omega) (by omega) (by omega)) a6
  · refine Pw_mk ?_
    apply t_X6_keep <;> intros
    all_goals first | exact rk | omega | exact ⟨rfl, h⟩
end OPI
