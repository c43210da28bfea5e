/-! deeds side by side -/
def nE (d : Int) : Int := if d < 8 then 1 else if d = 8 then 2 else 0
def nA (h : Int → Int) (d : Int) : Int := if d < 8 then 9 + 5 * hrr h d + d % 4 else if d = 8 then h 1 else h 5
def nB (h : Int → Int) (d : Int) : Int := if d < 8 then h (9 + 5 * hrr h d + d % 4) else if d = 8 then 0 else h 6
/-- what a deed makes of the reference's hut -/
def mdf (R : Int) (h : Int → Int) (d : Int) : Int → Int := fun j => if j = 3 ∨ 38 ≤ j then ntf h (nE d) (nA h d) (nB h d) 0 j else if j = 4 then h 4 + (if d < 8 then 1 else 0) else stp R h d j
def mdo (s : m_St) (d : Int) : m_St := fun x j => if x = 83 then mdf (s 38 5) (s 83) d j else s x j
theorem mdo_o {s : m_St} {d x j : Int} (h : ¬ x = 83) : mdo s d x j = s x j := by unfold mdo; rw [if_neg h]
theorem mdo_83 {s : m_St} {d j : Int} : mdo s d 83 j = mdf (s 38 5) (s 83) d j := by unfold mdo; rw [if_pos rfl]
theorem dok_hj {h h' : Int → Int} {d : Int} (e : ∀ j, hj (h 0) j → h' j = h j) (h00 : 0 ≤ h 0) (hd : dok h d) : dok h' d := by
  unfold dok at hd ⊢
  rw [e 5 (by unfold hj; omega), e 1 (by unfold hj; omega), e 0 (by unfold hj; omega)]
  exact hd
theorem stp_hj {R : Int} {h h' : Int → Int} {d : Int} (e : ∀ j, hj (h 0) j → h' j = h j) (hh : hok h) (hd : dok h d) : ∀ j, hj (h 0) j → stp R h' d j = stp R h d j := by
  intro j hjj
  have e5 := e 5 (by unfold hj; omega)
  have e6 := e 6 (by unfold hj; omega)
  have er : hrr h' d = hrr h d := by unfold hrr; rw [e5, e6]
  have h06 := hh.2.1
  unfold stp
  by_cases h8 : d < 8
  · obtain ⟨r0, r1⟩ := hrr_r hh hd h8
    rw [if_pos h8, if_pos h8, er]
    have hd0 := hd.1
    have e9 := e (9 + 5 * hrr h d + d % 4) (by unfold hj; omega)
    have e8 := e (8 + 5 * hrr h d) (by unfold hj; omega)
    have eh : hld h' (hrr h d) = hld h (hrr h d) := by
      unfold hld
      rw [e8]
      exact hset_cong fun c c0 c1 => e _ (by unfold hj; omega)
    rw [e9, e8, eh, e 1 (by unfold hj; omega)]
    unfold setf
    split
    · rfl
    · split
      · rfl
      · exact e j hjj
  · rw [if_neg h8, if_neg h8]
    by_cases h9 : d = 8
    · rw [if_pos h9, if_pos h9, e 2 (by unfold hj; omega)]
      unfold setf
      split
      · rfl
      · exact e j hjj
    · rw [if_neg h9, if_neg h9]
      unfold setf
      split
      · rfl
      · split
        · rfl
        · exact e j hjj
theorem HM_step {R : Int} {b ds ds' m m' : Int → Int} {n d : Int} (hb : hok b) (h : HM R b ds n m) (n4 : n < 40) (hd : dok (hst R b ds n.toNat) d) (ed : ∀ k, 0 ≤ k → k < n → ds' k = ds k) (en : ds' n = d) (em : ∀ j, 0 ≤ j → j < 198 → m' j = mdf R m d j) : HM R b ds' (n + 1) m' := by
  obtain ⟨n0, _, m3, m4, mt, hds, hv, hn⟩ := h
  have hd' : ∀ k : Nat, k < n.toNat → dok (hst R b ds k) (ds k) := fun k hk => hds k (by omega)
  have ed' : ∀ k : Nat, k < n.toNat → ds' k = ds k := fun k hk => ed k (by omega) (by omega)
  have hc := hst_cong (R := R) (b' := b) (fun j _ => rfl) ed' hb hd'
  have hho := hst_ok hb hd' _ (Nat.le_refl _)
  have h0 := hst_k hb hd' (j := 0) (Or.inl rfl) _ (Nat.le_refl _)
  have h06 := hho.2.1
  have h00 := hho.1
  have e : ∀ j, hj (hst R b ds n.toNat 0) j → m j = hst R b ds n.toNat j := fun j hjj => by
    rw [h0] at hjj
    exact hv j hjj
  have hm : hok m := hok_hj e hho
  have hdm : dok m d := dok_hj e h00 hd
  have m0 : m 0 = hst R b ds n.toNat 0 := e 0 (by unfold hj; omega)
  have er : hrr m d = hrr (hst R b ds n.toNat) d := by
    unfold hrr
    rw [e 5 (by unfold hj; omega), e 6 (by unfold hj; omega)]
  have hd0 := hd.1
  have en1 : (n + 1).toNat = n.toNat + 1 := by omega
  have edn : ds' (n.toNat : Int) = d := by rw [show (n.toNat : Int) = n by omega]; exact en
  have hnn : hst R b ds' n.toNat = hst R b ds n.toNat ∨ True := Or.inr trivial
  refine ⟨by omega, by omega, ?_, ?_, ?_, fun k hk => ?_, fun j hjj => ?_, fun k hk => ?_⟩
  · rw [em 3 (by omega) (by omega)]
    unfold mdf ntf
    rw [if_pos (Or.inl rfl), if_pos rfl, m3]
  · rw [em 4 (by omega) (by omega)]
    unfold mdf
    rw [if_neg (by omega), if_pos rfl, m4, en1]
    unfold sayn
    rw [sm_s, edn, sm_cong (f := fun i => if ds i < 8 then 1 else 0) (f' := fun i => if ds' i < 8 then 1 else 0) (fun k hk => by show (if ds' (k : Int) < 8 then (1 : Int) else 0) = _; rw [ed' k hk])]
  · rw [em 7 (by omega) (by omega)]
    unfold mdf
    rw [if_neg (by omega), if_neg (by omega), stp_k hm hdm (by omega)]
    exact mt
  · by_cases hkn : k = n.toNat
    · rw [hkn, edn]
      exact dok_cong (hc _ (Nat.le_refl _)) hd
    · rw [ed' k (by omega)]
      exact dok_cong (hc k (by omega)) (hd' k (by omega))
  · have hjj2 := hjj
    unfold hj at hjj2
    have hb6 := hb.2.1
    rw [em j (by omega) (by omega), en1]
    unfold mdf
    rw [if_neg (by omega), if_neg (by omega)]
    show _ = stp R (hst R b ds' n.toNat) (ds' (n.toNat : Int)) j
    rw [edn, stp_cong (hc _ (Nat.le_refl _)) hho hd j (by omega)]
    exact stp_hj e hho hd j (by rw [h0]; exact hjj)
  · by_cases hkn : k = n.toNat
    · have hk4 : (38 : Int) + 4 * k = 38 + 4 * m 3 := by omega
      rw [hkn] at hk4 ⊢
      rw [edn]
      unfold note
      have n1 : m' (38 + 4 * (n.toNat : Int)) = nE d := by
        rw [em _ (by omega) (by omega)]
        unfold mdf ntf
        rw [if_pos (by omega), if_neg (by omega), if_pos hk4]
      have n2 : m' (38 + 4 * (n.toNat : Int) + 1) = nA m d := by
        rw [em _ (by omega) (by omega)]
        unfold mdf ntf
        rw [if_pos (by omega), if_neg (by omega), if_neg (by omega), if_pos (by omega)]
      have n3 : m' (38 + 4 * (n.toNat : Int) + 2) = nB m d := by
        rw [em _ (by omega) (by omega)]
        unfold mdf ntf
        rw [if_pos (by omega), if_neg (by omega), if_neg (by omega), if_neg (by omega), if_pos (by omega)]
      have hcn := hc _ (Nat.le_refl n.toNat)
      have er2 : hrr (hst R b ds' n.toNat) d = hrr (hst R b ds n.toNat) d := by unfold hrr; rw [hcn 5 (by omega), hcn 6 (by omega)]
      rw [n1, n2, n3, er2, hcn 1 (by omega), hcn 5 (by omega), hcn 6 (by omega)]
      refine ⟨fun h8 => ?_, fun h8 => ?_, fun h9 => ?_⟩
      · obtain ⟨r0, r1⟩ := hrr_r hho hd h8
        unfold nE nA nB
        rw [if_pos h8, if_pos h8, if_pos h8, er, hcn _ (by omega)]
        exact ⟨rfl, rfl, e _ (by unfold hj; omega)⟩
      · unfold nE nA
        rw [if_neg (by omega), if_pos h8, if_neg (by omega), if_pos h8]
        exact ⟨rfl, e 1 (by unfold hj; omega)⟩
      · unfold nE nA nB
        rw [if_neg (by omega), if_neg (by omega), if_neg (by omega), if_neg (by omega), if_neg (by omega), if_neg (by omega)]
        exact ⟨rfl, e 5 (by unfold hj; omega), e 6 (by unfold hj; omega)⟩
    · have hk' : (k : Int) < n := by omega
      rw [ed' k (by omega)]
      refine note_cong (m := mdf R m d) (h := hst R b ds k) (fun j j0 j1 => em j (by omega) j1) (hc k (by omega)) (by omega) (hst_ok hb hd' k (by omega)) (hds k hk') ?_
      have o : ∀ i : Int, 0 ≤ i → i ≤ 3 → mdf R m d (38 + 4 * (k : Int) + i) = m (38 + 4 * (k : Int) + i) := fun i i0 i3 => by
        unfold mdf
        rw [if_pos (by omega), ntf_o (by omega) (by omega)]
      have o0 := o 0 (by omega) (by omega)
      rw [Int.add_zero] at o0
      have hn' := hn k hk'
      unfold note at hn' ⊢
      rw [o0, o 1 (by omega) (by omega), o 2 (by omega) (by omega)]
      exact hn'
theorem J_deed {s : m_St} {d : Int} (h : J s) (n4 : s 38 9 < 40) (hd : dok (s 83) d) : J (mdo (acs s d) d) := by
  obtain ⟨a1, a2, a3, a4, a5, a6⟩ := h
  obtain ⟨hb, hm, hr⟩ := a4
  have hv := Jh_view ⟨hb, hm, hr⟩
  have hbo := hbase_ok hb
  have n0 := hm.1
  have hd' : ∀ k : Nat, k < (s 38 9).toNat → dok (hst (s 38 5) (hbase s) (s 41) k) (s 41 k) := fun k hk => hm.2.2.2.2.2.1 k (by omega)
  have hho := hst_ok hbo hd' _ (Nat.le_refl _)
  have h0 := hst_k hbo hd' (j := 0) (Or.inl rfl) _ (Nat.le_refl _)
  have e : ∀ j, hj (hst (s 38 5) (hbase s) (s 41) (s 38 9).toNat 0) j → s 83 j = hst (s 38 5) (hbase s) (s 41) (s 38 9).toNat j := fun j hjj => by
    rw [h0] at hjj
    exact hm.2.2.2.2.2.2.1 j hjj
  have m0 : s 83 0 = hst (s 38 5) (hbase s) (s 41) (s 38 9).toNat 0 := e 0 (by unfold hj; omega)
  have hdh : dok (hst (s 38 5) (hbase s) (s 41) (s 38 9).toNat) d := dok_hj (h := s 83) (fun j hjj => (e j (by rw [← m0]; exact hjj)).symm) (by rw [m0]; exact hho.1) hd
  have hd0 := hd.1
  have hd45 := hd.2.1
  have u1 : ∀ c j, ¬ (c = 41 ∧ j = s 38 9) → ¬ (c = 38 ∧ j = 9) → m_upd (m_upd s 41 (s 38 9) d) 38 9 (s 38 9 + 1) c j = s c j := fun c j h1 h2 => by rw [upd_o2 h2, upd_o2 h1]
  have rr : rep (m_upd (m_upd s 41 (s 38 9) d) 38 9 (s 38 9 + 1)) (hst (s 38 5) (hbase s) (s 41) (s 38 9).toNat) := by
    unfold rep at hr ⊢
    rw [u1 38 3 (by omega) (by omega), u1 38 6 (by omega) (by omega), u1 38 4 (by omega) (by omega), u1 38 7 (by omega) (by omega), u1 38 8 (by omega) (by omega)]
    obtain ⟨b1, b2, b3, b4, b5, b6, b7⟩ := hr
    refine ⟨b1, b2, b3, b4, b5, fun i i0 i6 => gok_cong (fun j => u1 _ _ (by omega) (by omega)) (fun j => u1 _ _ (by omega) (by omega)) (b6 i i0 i6), fun i i0 i1 => ?_⟩
    have i6 : i < 6 := by have := hho.2.1; omega
    obtain ⟨y1, y2⟩ := b7 i i0 i1
    rw [u1 (44 + 4 * i) 1 (by omega) (by omega)]
    refine ⟨y1, fun c c0 c1 => ?_⟩
    rw [u1 (44 + 4 * i + 1) c (by omega) (by omega)]
    exact y2 c c0 c1
  have ru : d < 8 → 0 ≤ (m_upd (m_upd s 41 (s 38 9) d) 38 9 (s 38 9 + 1)) 38 7 ∧ (m_upd (m_upd s 41 (s 38 9) d) 38 9 (s 38 9 + 1)) 38 7 < 6 ∧ 0 ≤ (m_upd (m_upd s 41 (s 38 9) d) 38 9 (s 38 9 + 1)) 38 8 ∧ (m_upd (m_upd s 41 (s 38 9) d) 38 9 (s 38 9 + 1)) 38 8 < 6 := fun h8 => by
    rw [rr.2.2.2.1, rr.2.2.2.2.1]
    obtain ⟨k1, k2, k3, k4, k5, k6, k7, k8, k9, k10, k11, k12⟩ := hho
    have := (hdh.2.2.1 h8).1
    omega
  have rp := rep_pf rr hho hdh
  rw [u1 38 5 (by omega) (by omega)] at rp
  have fp : ∀ c j, ¬ hcell c j → acs s d c j = m_upd (m_upd s 41 (s 38 9) d) 38 9 (s 38 9 + 1) c j := fun c j hc => pf_o hd0 ru hc
  have p9 : acs s d 38 9 = s 38 9 + 1 := by
    show pf _ d 38 9 = _
    rw [pf_9 (fun h8 => ⟨(ru h8).1, (ru h8).2.2.1⟩), upd_eq]
  have fo : ∀ c j, ¬ hcell c j → ¬ (c = 41 ∧ j = s 38 9) → ¬ (c = 38 ∧ j = 9) → ¬ c = 83 → mdo (acs s d) d c j = s c j := fun c j h1 h2 h3 h4 => by
    rw [mdo_o h4, fp c j h1, u1 c j h2 h3]
  have t38 : ∀ j, mdo (acs s d) d 38 j = acs s d 38 j := fun j => mdo_o (by decide)
  have t5 : mdo (acs s d) d 38 5 = s 38 5 := fo 38 5 (by unfold hcell; omega) (by omega) (by omega) (by omega)
  have t9 : mdo (acs s d) d 38 9 = s 38 9 + 1 := by rw [t38]; exact p9
  have t41n : mdo (acs s d) d 41 (s 38 9) = d := by rw [mdo_o (by decide), fp 41 _ (by unfold hcell; omega), upd_nc (by decide), upd_eq]
  have eb : ∀ j, j < 38 → hbase (mdo (acs s d) d) j = hbase s j := hbase_cong (fun c j hc => by unfold uB at hc; exact fo c j (by unfold hcell; omega) (by omega) (by omega) (by omega)) hb.1
  have hm2 : HM (s 38 5) (hbase s) (mdo (acs s d) d 41) (s 38 9 + 1) (mdo (acs s d) d 83) := by
    refine HM_step hbo hm n4 hdh (fun k k0 k1 => fo 41 k (by unfold hcell; omega) (by omega) (by omega) (by omega)) t41n (fun j j0 j1 => ?_)
    rw [mdo_83, fp 38 5 (by unfold hcell; omega), u1 38 5 (by omega) (by omega)]
    have e83 : acs s d 83 = s 83 := funext fun j => by rw [fp 83 j (by unfold hcell; omega), u1 83 j (by omega) (by omega)]
    rw [e83]
  have hm3 : HM (mdo (acs s d) d 38 5) (hbase (mdo (acs s d) d)) (mdo (acs s d) d 41) (mdo (acs s d) d 38 9) (mdo (acs s d) d 83) := by
    rw [t5, t9]
    exact HM_cong eb (fun _ _ _ => rfl) (fun _ _ _ => rfl) hbo hm2
  refine ⟨?_, ?_, ?_, ⟨?_, hm3, ?_⟩, ?_, ?_⟩
  · exact Jr_cong (fun c j hc => by unfold uR at hc; exact fo c j (by unfold hcell; omega) (by omega) (by omega) (by omega)) a1
  · exact Jt_cong (fun c j hc => by unfold uT at hc; exact fo c j (by unfold hcell; omega) (by omega) (by omega) (by omega)) a2
  · exact Jf_cong (fun c j hc => by unfold uF at hc; exact fo c j (by unfold hcell; omega) (by omega) (by omega) (by omega)) a3
  · unfold bok aok at hb ⊢
    rw [fo 38 3 (by unfold hcell; omega) (by omega) (by omega) (by omega), fo 38 4 (by unfold hcell; omega) (by omega) (by omega) (by omega)]
    obtain ⟨b1, b2, b3, b4, b5, b6⟩ := hb
    refine ⟨b1, b2, b3, b4, fun i i0 i1 => ?_, fun i i0 i6 => gok_cong (fun j => mdo_o (by omega)) (fun j => mdo_o (by omega)) (rp.2.2.2.2.2.1 i i0 i6)⟩
    obtain ⟨y1, y2, y3⟩ := b5 i i0 i1
    rw [fo (42 + 4 * i) 1 (by unfold hcell; omega) (by omega) (by omega) (by omega)]
    refine ⟨y1, y2, fun c c0 c1 => ?_⟩
    rw [fo (42 + 4 * i + 1) c (by unfold hcell; omega) (by omega) (by omega) (by omega)]
    exact y3 c c0 c1
  · rw [t5, t9, show (s 38 9 + 1).toNat = (s 38 9).toNat + 1 by omega]
    have hsp := hst_ok (R := s 38 5) (b := hbase s) hbo (n := (s 38 9).toNat + 1) (ds := mdo (acs s d) d 41) (fun k hk => hm2.2.2.2.2.2.1 k (by omega)) _ (Nat.le_refl _)
    have hc := hst_cong (R := s 38 5) (b := hbase s) (b' := hbase (mdo (acs s d) d)) (ds := mdo (acs s d) d 41) (ds' := mdo (acs s d) d 41) (n := (s 38 9).toNat + 1) eb (fun _ _ => rfl) hbo (fun k hk => hm2.2.2.2.2.2.1 k (by omega)) _ (Nat.le_refl _)
    refine rep_cong (s := mdo (acs s d) d) (h := hst (s 38 5) (hbase s) (mdo (acs s d) d 41) ((s 38 9).toNat + 1)) (fun _ _ _ => rfl) hc hsp ?_
    have ec := hst_cong (R := s 38 5) (b := hbase s) (b' := hbase s) (ds := s 41) (ds' := mdo (acs s d) d 41) (n := (s 38 9).toNat) (fun _ _ => rfl) (fun k hk => fo 41 k (by unfold hcell; omega) (by omega) (by omega) (by omega)) hbo hd' _ (Nat.le_refl _)
    have hsc := stp_cong (R := s 38 5) ec hho hdh
    have hso := stp_ok (R := s 38 5) hho hdh
    refine rep_cong (s := acs s d) (h := stp (s 38 5) (hst (s 38 5) (hbase s) (s 41) (s 38 9).toNat) d) (fun c j hc => by unfold uH0 at hc; exact mdo_o (by omega)) (fun j hj38 => ?_) hso rp
    show stp (s 38 5) _ (mdo (acs s d) d 41 ((s 38 9).toNat : Int)) j = _
    rw [show ((s 38 9).toNat : Int) = s 38 9 by omega, t41n]
    exact hsc j hj38
  · exact Jk_cong (fun c j hc => by unfold uK uB at hc; exact fo c j (by unfold hcell; omega) (by omega) (by omega) (by omega)) hb a5
  · exact Jg_cong (fun c j hc => by unfold uG at hc; exact fo c j (by unfold hcell; omega) (by omega) (by omega) (by omega)) a6
