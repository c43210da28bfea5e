/-! the reference reads a text -/
def rtk (s : m_St) (t : Int) : Prop := mtt s t (s 11 t) (s (13 + t))
def mfr (s s' : m_St) : Prop := ∀ c j, ¬ c = 84 → ¬ (c = 77 ∧ (j = 18 ∨ j = 19)) → s' c j = s c j
def qDM (s : m_St) (t v : Int) (s' : m_St) : Prop := v = rdv (s 11 t) (s (13 + t)) ∧ mfr s s' ∧ (v = -9 → ∀ j, 0 ≤ j → j < 198 → s' 84 j = rdx (s 11 t) (s (13 + t)) j)
def MXR (s0 s1 : m_St) (x : Int → Int) : Prop := ∃ dr, RS s0 s1 1 (x (-1)) dr ∧ ∀ j, 0 ≤ j → j < 198 → dr j = x j
section SPRE
variable {X : List Int32} {d : Nat} {s s0 s1 : m_St} {P : Option Value → m_St → Prop} {t n : Int} {sg x : Int → Int}
theorem setf_o {f : Int → Int} {k v j : Int} (h : ¬ j = k) : setf f k v j = f j := by unfold setf; rw [if_neg h]
theorem setf_e {f : Int → Int} {k v : Int} : setf f k v k = v := by unfold setf; rw [if_pos rfl]
theorem pR_ok {p : Int} (hp : x (-1) = p) (hf : fR n sg p = -9) : pR n sg x (-1) = p + 3 ∧ pR n sg x (-2) = x (-2) ∧ ∀ j, 0 ≤ j → pR n sg x j = setf x 7 (iOr (x 7) (iShl 1 (4 * (at_ n sg (p + 1) - 48) + (at_ n sg (p + 2) - 48)))) j := by
  unfold pR
  rw [hp, if_pos hf]
  refine ⟨?_, ?_, fun j j0 => ?_⟩
  · rw [setf_o (by decide), setf_o (by decide), setf_e]
  · rw [setf_o (by decide), setf_o (by decide), setf_o (by decide)]
  · by_cases h7 : j = 7
    · rw [h7, setf_e, setf_e]
    · rw [setf_o h7, setf_o (by omega), setf_o (by omega), setf_o h7]
theorem pG_ok {p : Int} (hp : x (-1) = p) (x0_ : 0 ≤ x 0) (hf : fG n sg p (x 0) = -9) : pG n sg x (-1) = p + 5 ∧ pG n sg x (-2) = x (-2) ∧ ∀ j, 0 ≤ j → pG n sg x j = setf (setf (drc n sg x p (8 + 5 * x 0) 4) (8 + 5 * x 0) (kOf (at_ n sg p))) 0 (x 0 + 1) j := by
  unfold pG
  rw [hp, if_pos hf]
  unfold pG1
  refine ⟨?_, ?_, fun j j0 => ?_⟩
  · rw [if_pos rfl, hp]
  · rw [if_neg (by decide), if_neg (by decide), if_neg (by omega), if_neg (by omega)]
  · rw [if_neg (by omega), hp]
    by_cases h0 : j = 0
    · rw [if_pos h0, h0, setf_e]
    · rw [if_neg h0, setf_o h0]
      by_cases h8 : j = 8 + 5 * x 0
      · rw [if_pos h8, h8, setf_e]
      · rw [if_neg h8, setf_o h8]
        unfold drc
        by_cases h9 : 9 + 5 * x 0 ≤ j ∧ j < 13 + 5 * x 0
        · rw [if_pos h9, if_pos (by omega), show 8 + 5 * x 0 + 1 = 9 + 5 * x 0 by omega]
        · rw [if_neg h9, if_neg (by omega)]
theorem reads_loop (m : mtt s t n sg) (k : Int) (rk : inR k) : ∀ (mm : Nat) (x : Int → Int) (s1 : m_St), xok n x → MXR s s1 x → n - x (-1) ≤ mm → (∀ s', mfr s s' → (rdf n (pL n sg mm x) = -9 → ∀ j, 0 ≤ j → j < 198 → s' 84 j = pL n sg mm x j) → P (some (vI (rdf n (pL n sg mm x)))) s') → Rn X (d + 3) 173 37 [some (vR 77), some (vI t), some (vI k)] [] s1 P := by
  obtain ⟨t0, t4, ht, e1, e2⟩ := m
  have m : mtt s t n sg := ⟨t0, t4, ht, e1, e2⟩
  have n6 := ht.2.1
  have fin : ∀ (x : Int → Int) (s1 : m_St), xok n x → MXR s s1 x → n ≤ x (-1) → (∀ s', mfr s s' → (rdf n x = -9 → ∀ j, 0 ≤ j → j < 198 → s' 84 j = x j) → P (some (vI (rdf n x))) s') → Rn X (d + 3) 173 37 [some (vR 77), some (vI t), some (vI k)] [] s1 P := by
    intro x s1 hx ⟨dr, r, hdr⟩ hn hk
    have w19 := r.2.1
    have w18 := r.2.2.1
    have e84 := r.2.2.2
    have e81 := r.1 81 t (by decide) (by omega)
    have d0 := hdr 0 (by omega) (by omega)
    rw [← e84] at d0 hdr
    have x1 := hx.2.1
    have hf : rdf n x = if x 0 < 2 then n else -9 := by unfold rdf; rw [if_pos hx.2.2.2.2.2.2.2.1]
    have hp := hk s1 r.1 (fun _ => hdr)
    have x06 := hx.2.2.2.1
    have x00 := hx.2.2.1
    have x10 := hx.1
    rw [hf] at hp
    apply t_X6_reads_37 t0 t4 <;> intros
    all_goals first | omega | skip
    · rw [if_pos (by omega)] at hp
      rw [w18, show x (-1) = n by omega]; exact hp
    · rw [if_neg (by omega)] at hp
      exact hp
  have badf : ∀ (x : Int → Int) (s1 : m_St) (dr : Int → Int) (f : Int), RS s s1 0 f dr → ¬ f = -9 → x (-2) = f → (∀ s', mfr s s' → (rdf n x = -9 → ∀ j, 0 ≤ j → j < 198 → s' 84 j = x j) → P (some (vI (rdf n x))) s') → Rn X (d + 3) 173 37 [some (vR 77), some (vI t), some (vI k)] [] s1 P := by
    intro x s1 dr f r hf hxf hk
    have w19 := r.2.1
    have w18 := r.2.2.1
    have hrf : rdf n x = f := by unfold rdf; rw [if_neg (by omega), hxf]
    have hp := hk s1 r.1 (fun z => by omega)
    rw [hrf] at hp
    apply t_X6_reads_37 t0 t4 <;> intros
    all_goals first | omega | skip
    rw [w18]; exact hp
  intro mm
  induction mm with
  | zero =>
    intro x s1 hx hm hn hk
    exact fin x s1 hx hm (by omega) hk
  | succ mm ih =>
    intro x s1 hx hm hn hk
    by_cases hp : n ≤ x (-1)
    · rw [pL_out (fun z => by omega)] at hk
      exact fin x s1 hx hm hp hk
    · have hpl : pL n sg (mm + 1) x = pL n sg mm (pI n sg x) := by
        show (if x (-2) = -9 ∧ x (-1) < n then pL n sg mm (pI n sg x) else x) = _
        rw [if_pos ⟨hx.2.2.2.2.2.2.2.1, by omega⟩]
      rw [hpl] at hk
      obtain ⟨dr, r, hdr⟩ := hm
      have w19 := r.2.1
      have w18 := r.2.2.1
      have e84 := r.2.2.2
      have e81 := r.1 81 t (by decide) (by omega)
      have x10 := hx.1
      have D := RS_rdk m r (by omega) (by omega) (by omega)
      have L := RS_lk m r (by omega)
      have b := lkp_r ht (p := x (-1)) (by omega)
      have lr := lkM_r D
      have m1 := mtt_RS m r
      have d0 := hdr 0 (by omega) (by omega)
      have x00 := hx.2.2.1
      have x06 := hx.2.2.2.1
      have d84 : s1 84 0 = x 0 := by rw [e84]; exact d0
      apply t_X6_reads_37 t0 t4 <;> intros
      all_goals first | omega | exact D | skip
      · -- a guest
        have hat : ¬ at_ n sg (x (-1)) = 102 := by omega
        have hpi : pI n sg x = skp n sg (pG n sg x) := by unfold pI; rw [if_neg hat]
        rw [hpi] at hk
        refine sp_readsGuestM m1 w19 (by omega) (by omega) (by omega) (by omega) (x (-1)) w18.symm (fun s' w' p' dr' r' hq => ?_)
        apply t_X6_reads_80 t0 t4
        rw [d84] at hq
        rcases hq with ⟨hf, rfl, rfl, hd'⟩ | ⟨hf, rfl, rfl⟩
        · obtain ⟨g1, g2, g3⟩ := pG_ok (n := n) (sg := sg) (x := x) rfl x00 hf
          have hsk : skp n sg (pG n sg x) (-1) = skb n sg (x (-1) + 5) := by rw [skp_1, g1]
          have hxg := xok_pG hx hf
          have hge := skb_r (n := n) (sg := sg) (p := x (-1) + 5) (by have := hxg.2.1; rw [g1] at this; exact this)
          refine ih _ s' (xok_skp hxg) ⟨dr', ?_, fun j j0 j1 => ?_⟩ (by rw [hsk]; omega) hk
          · rw [hsk]
            exact RS_tr r r'
          · rw [skp_o (by omega), g3 j j0, hd']
            unfold setf drc
            rw [e84]
            split
            · rfl
            · split
              · rfl
              · split
                · rfl
                · exact hdr j j0 j1
        · have g := (pG_2 (n := n) (sg := sg) (x := x) x00).2 hf
          have hx2 : skp n sg (pG n sg x) (-2) = fG n sg (x (-1)) (x 0) := by rw [skp_o (by decide), g]
          rw [pL_out (fun z => hf (by rw [← hx2]; exact z.1))] at hk
          exact badf _ s' dr' _ (RS_tr r r') hf hx2 hk
      · have hat : at_ n sg (x (-1)) = 102 := by omega
        have hpi : pI n sg x = skp n sg (pR n sg x) := by unfold pI; rw [if_pos hat]
        rw [hpi] at hk
        refine sp_readsPairM m1 w19 (by omega) (by omega) (x (-1)) w18.symm (fun s' w' p' dr' r' hq => ?_)
        apply t_X6_reads_72 t0 t4
        rcases hq with ⟨hf, rfl, rfl, hd'⟩ | ⟨hf, rfl, rfl⟩
        · obtain ⟨g1, g2, g3⟩ := pR_ok (n := n) (sg := sg) (x := x) rfl hf
          have hsk : skp n sg (pR n sg x) (-1) = skb n sg (x (-1) + 3) := by rw [skp_1, g1]
          have hxg := xok_pR hx hf
          have hge := skb_r (n := n) (sg := sg) (p := x (-1) + 3) (by have := hxg.2.1; rw [g1] at this; exact this)
          refine ih _ s' (xok_skp hxg) ⟨dr', ?_, fun j j0 j1 => ?_⟩ (by rw [hsk]; omega) hk
          · rw [hsk]
            exact RS_tr r r'
          · rw [skp_o (by omega), g3 j j0, hd', e84, hdr 7 (by omega) (by omega)]
            unfold setf
            split
            · rfl
            · exact hdr j j0 j1
        · have g := (pR_2 (n := n) (sg := sg) (x := x)).2 hf
          have hx2 : skp n sg (pR n sg x) (-2) = fR n sg (x (-1)) := by rw [skp_o (by decide), g]
          rw [pL_out (fun z => hf (by rw [← hx2]; exact z.1))] at hk
          exact badf _ s' dr' _ (RS_tr r r') hf hx2 hk
theorem zero_loop (t0 : 0 ≤ t) (t4 : t < 4) (kk : Rn X (d + 3) 173 2 [some (vR 77), some (vI t), some (vI 198)] [] (rwr s 84 0 198 (fun _ => 0)) P) : Rn X (d + 3) 173 2 [some (vR 77), some (vI t), some (vI 0)] [] s P := by
  have loop : ∀ (mm : Nat) (k : Int), 0 ≤ k → k + mm = 198 → Rn X (d + 3) 173 2 [some (vR 77), some (vI t), some (vI k)] [] (rwr s 84 0 k (fun _ => 0)) P := by
    intro mm
    induction mm with
    | zero =>
      intro k k0 km
      have : k = 198 := by omega
      subst this
      exact kk
    | succ mm ih =>
      intro k k0 km
      apply t_X6_reads_2 t0 t4 <;> intros
      all_goals first | omega | skip
      rw [rwr_up k0 (by omega) rfl]
      exact ih (k + 1) (by omega) (by omega)
  have := loop 198 0 (by omega) (by omega)
  rw [rwr_0] at this
  exact this
theorem sp_readsM0 (m : mtt s t n sg) (kk : ∀ (v : Int) (s' : m_St), v = rdv n sg ∧ mfr s s' ∧ (v = -9 → ∀ j, 0 ≤ j → j < 198 → s' 84 j = rdx n sg j) → P (some (vI v)) s') : Cl X (d + 3) 173 [vR 77, vI t] s P := by
  obtain ⟨t0, t4, ht, e1, e2⟩ := m
  have m : mtt s t n sg := ⟨t0, t4, ht, e1, e2⟩
  have n0 := ht.1
  have n6 := ht.2.1
  apply t_X6_reads t0 t4
  refine zero_loop t0 t4 ?_
  have Rz : RS s (m_upd (m_upd (rwr s 84 0 198 (fun _ => 0)) 77 18 0) 77 19 1) 1 0 (rwr s 84 0 198 (fun _ => 0) 84) := by
    refine ⟨fun c j h1 h2 => ?_, upd_eq, ?_, ?_⟩
    · rw [upd_o2 (by omega), upd_o2 (by omega), rwr_nc h1]
    · rw [upd_nj (by decide), upd_eq]
    · rw [upd_fun (by decide), upd_fun (by decide)]
  have hz : ∀ j, 0 ≤ j → j < 198 → rwr s 84 0 198 (fun _ => 0) 84 j = 0 := fun j j0 j1 => by rw [rwr_in (by omega)]
  have x0z : ∀ j, 0 ≤ j → x0 j = 0 := fun j j0 => by unfold x0; rw [setf_o (by omega)]
  have x01 : x0 (-1) = 0 := by unfold x0; rw [setf_o (by decide)]
  have hx0 := x0_ok n0
  have hxs := xok_skp (sg := sg) hx0
  have m1 := mtt_RS m Rz
  have hq : skp n sg x0 (-1) = skb n sg 0 := by rw [skp_1, x01]
  apply t_X6_reads_2 t0 t4 <;> intros
  all_goals first | omega | skip
  refine sp_readsWoodM m1 Rz.2.1 (by rw [Rz.2.2.1]; omega) (by rw [Rz.2.2.1]; omega) (skp n sg x0 (-1)) (by rw [hq, Rz.2.2.1]) (fun s' w' p' dr' r' hw => ?_)
  rcases hw with ⟨hf, rfl, rfl, hd'⟩ | ⟨hf, rfl, rfl⟩
  · have hxw := xok_pW hxs hf
    have hxx := xok_skp (sg := sg) hxw
    have p1 : pW n sg (skp n sg x0) (-1) = skp n sg x0 (-1) + 3 := by
      unfold pW
      rw [if_pos hf, setf_o (by decide), setf_o (by decide), setf_e]
    have pj : ∀ j, 0 ≤ j → j < 198 → dr' j = skp n sg (pW n sg (skp n sg x0)) j := fun j j0 j1 => by
      rw [skp_o (by omega), hd', Rz.2.2.2]
      unfold pW
      rw [if_pos hf]
      by_cases h2 : j = 2
      · rw [h2, setf_e, setf_e]
      · rw [setf_o h2, setf_o h2]
        by_cases h1 : j = 1
        · rw [h1, setf_e, setf_e]
        · rw [setf_o h1, setf_o h1, setf_o (by omega), skp_o (by omega), x0z j j0, hz j j0 j1]
    refine reads_loop m 198 (by decide) 60 _ s' hxx ⟨dr', ?_, pj⟩ (by have := hxx.1; omega) (fun s2 f2 h2 => kk _ s2 ⟨rfl, f2, h2⟩)
    rw [skp_1, p1]
    exact RS_tr Rz r'
  · have hxw : xW n sg (-2) = fW n sg (skp n sg x0 (-1)) := by
      show skp n sg (pW n sg (skp n sg x0)) (-2) = _
      rw [skp_o (by decide), pW_2 hf]
    have hp : pL n sg 60 (xW n sg) = xW n sg := pL_out (fun z => hf (by rw [← hxw]; exact z.1))
    have hv : rdv n sg = fW n sg (skp n sg x0 (-1)) := by
      unfold rdv rdx
      rw [hp, if_neg (by rw [hxw]; exact hf), hxw]
    have r2 := RS_tr Rz r'
    have w19 := r2.2.1
    have w18 := r2.2.2.1
    have hk := kk (rdv n sg) s' ⟨rfl, r2.1, fun z => absurd (by rw [← hv]; exact z) hf⟩
    rw [hv] at hk
    apply t_X6_reads_37 t0 t4 <;> intros
    all_goals first | omega | skip
    rw [w18]; exact hk
theorem sp_readsM (m : rtk s t) (kk : ∀ (v : Int) (s' : m_St), qDM s t v s' → P (some (vI v)) s') : Cl X (d + 3) 173 [vR 77, vI t] s P := sp_readsM0 m kk
end SPRE
