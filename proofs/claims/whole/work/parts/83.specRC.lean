/-! the reference reads: what is read so far -/
def mtt (s : m_St) (t n : Int) (sg : Int → Int) : Prop := 0 ≤ t ∧ t < 4 ∧ tok n sg ∧ s 81 t = n ∧ ∀ j, 0 ≤ j → j < n → s 82 (60 * t + j) = sg j
def RS (s0 s1 : m_St) (w p : Int) (dr : Int → Int) : Prop := (∀ c j, ¬ c = 84 → ¬ (c = 77 ∧ (j = 18 ∨ j = 19)) → s1 c j = s0 c j) ∧ s1 77 19 = w ∧ s1 77 18 = p ∧ s1 84 = dr
def lkp (n : Int) (sg : Int → Int) (p : Int) : Int := if p < n then sg p else -1000
section SPRC
variable {X : List Int32} {d : Nat} {s s0 s1 : m_St} {P : Option Value → m_St → Prop} {t n w p h : Int} {sg dr : Int → Int}
theorem RS_rfl : RS s s (s 77 19) (s 77 18) (s 84) := ⟨fun _ _ _ _ => rfl, rfl, rfl, rfl⟩
theorem RS_19 {x : Int} (r : RS s0 s1 w p dr) : RS s0 (m_upd s1 77 19 x) x p dr := by
  refine ⟨fun c j h1 h2 => ?_, upd_eq, ?_, ?_⟩
  · rw [upd_o2 (by omega)]; exact r.1 c j h1 h2
  · rw [upd_nj (by decide)]; exact r.2.2.1
  · rw [upd_fun (by decide)]; exact r.2.2.2
theorem RS_18 {x : Int} (r : RS s0 s1 w p dr) : RS s0 (m_upd s1 77 18 x) w x dr := by
  refine ⟨fun c j h1 h2 => ?_, ?_, upd_eq, ?_⟩
  · rw [upd_o2 (by omega)]; exact r.1 c j h1 h2
  · rw [upd_nj (by decide)]; exact r.2.1
  · rw [upd_fun (by decide)]; exact r.2.2.2
theorem RS_84 {j v : Int} (r : RS s0 s1 w p dr) : RS s0 (m_upd s1 84 j v) w p (setf dr j v) := by
  refine ⟨fun c i h1 h2 => ?_, ?_, ?_, ?_⟩
  · rw [upd_nc h1]; exact r.1 c i h1 h2
  · rw [upd_nc (by decide)]; exact r.2.1
  · rw [upd_nc (by decide)]; exact r.2.2.1
  · funext i
    unfold m_upd setf
    rw [r.2.2.2]
    by_cases hi : i = j
    · rw [if_pos ⟨rfl, hi⟩, if_pos hi]
    · rw [if_neg (fun z => hi z.2), if_neg hi]
theorem RS_lk (m : mtt s0 t n sg) (r : RS s0 s1 w p dr) (p0 : 0 ≤ p) : lkM s1 t = lkp n sg p := by
  obtain ⟨t0, t4, ht, e1, e2⟩ := m
  unfold lkM lkp
  rw [r.2.2.1, r.1 81 t (by decide) (by omega), e1]
  by_cases hp : p < n
  · rw [if_pos hp, if_pos hp, r.1 82 _ (by decide) (by omega)]
    exact e2 p p0 hp
  · rw [if_neg hp, if_neg hp]
theorem RS_rdk (m : mtt s0 t n sg) (r : RS s0 s1 w p dr) (hw : w = 0 ∨ w = 1) (p0 : 0 ≤ p) (p5 : p ≤ 500) : rdk s1 t := by
  obtain ⟨t0, t4, ht, e1, e2⟩ := m
  obtain ⟨n0, n6, hb⟩ := ht
  unfold rdk
  rw [r.2.2.1, r.2.1, r.1 81 t (by decide) (by omega), e1]
  refine ⟨p0, p5, by omega, n6, hw, fun j j0 j1 => ?_⟩
  rw [r.1 82 _ (by decide) (by omega), e2 j j0 j1]
  exact hb j j0 j1
theorem RS_fg (m : mtt s0 t n sg) (r : RS s0 s1 w p dr) (p0 : 0 ≤ p) : RS s0 (fgS s1 t h) (if ¬ w = 0 ∧ 48 ≤ lkp n sg p ∧ lkp n sg p ≤ 48 + h then 1 else 0) (if ¬ w = 0 ∧ 48 ≤ lkp n sg p ∧ lkp n sg p ≤ 48 + h then p + 1 else p) dr := by
  unfold fgS
  rw [RS_lk m r p0, r.2.1, r.2.2.1]
  by_cases hc : ¬ w = 0 ∧ 48 ≤ lkp n sg p ∧ lkp n sg p ≤ 48 + h
  · rw [if_pos hc, if_pos hc, if_pos hc]
    exact RS_18 (RS_19 r)
  · rw [if_neg hc, if_neg hc, if_neg hc]
    exact RS_18 (RS_19 r)
theorem skb_in {q : Int} {f g : Int → Int} (h : ∀ j, 0 ≤ j → j < n → f j = g j) (hq : 0 ≤ q) : skb n f q = skb n g q := skb_cong h hq
theorem RS_sk (m : mtt s0 t n sg) (r : RS s0 s1 w p dr) (p0 : 0 ≤ p) : RS s0 (skS s1 t) w (if w = 0 then p else skb n sg p) dr := by
  obtain ⟨t0, t4, ht, e1, e2⟩ := m
  unfold skS
  rw [r.2.1]
  by_cases hw : w = 0
  · rw [if_pos hw, if_pos hw]
    exact r
  · rw [if_neg hw, if_neg hw, r.2.2.1, r.1 81 t (by decide) (by omega), e1]
    rw [skb_in (g := sg) (fun j j0 j1 => by rw [r.1 82 _ (by decide) (by omega)]; exact e2 j j0 j1) p0]
    exact RS_18 r
theorem RS_tr {s2 : m_St} {w2 p2 : Int} {dr2 : Int → Int} (r : RS s0 s1 w p dr) (r2 : RS s1 s2 w2 p2 dr2) : RS s0 s2 w2 p2 dr2 := ⟨fun c j h1 h2 => by rw [r2.1 c j h1 h2]; exact r.1 c j h1 h2, r2.2⟩
theorem mtt_RS (m : mtt s0 t n sg) (r : RS s0 s1 w p dr) : mtt s1 t n sg := by
  obtain ⟨t0, t4, ht, e1, e2⟩ := m
  refine ⟨t0, t4, ht, by rw [r.1 81 t (by decide) (by omega)]; exact e1, fun j j0 j1 => ?_⟩
  rw [r.1 82 _ (by decide) (by omega)]
  exact e2 j j0 j1
theorem lkp_r (ht : tok n sg) (p0 : 0 ≤ p) : -1000 ≤ lkp n sg p ∧ lkp n sg p ≤ 127 ∧ ((p < n ∧ lkp n sg p = at_ n sg p) ∨ (n ≤ p ∧ lkp n sg p = -1000 ∧ at_ n sg p = 1000)) ∧ -128 ≤ at_ n sg p := by
  unfold lkp at_
  by_cases hp : p < n
  · have := ht.2.2 p p0 hp
    rw [if_pos hp, if_pos hp]; omega
  · rw [if_neg hp, if_neg hp]; omega
theorem skb_r (hp : p ≤ n) : p ≤ skb n sg p ∧ skb n sg p ≤ n := ⟨(skbN_r _ _).1, (skbN_r _ _).2 hp⟩
theorem RS_fgY (m : mtt s0 t n sg) (r : RS s0 s1 1 p dr) (p0 : 0 ≤ p) (hd : 48 ≤ lkp n sg p ∧ lkp n sg p ≤ 48 + h) : RS s0 (fgS s1 t h) 1 (p + 1) dr := by
  have := RS_fg (h := h) m r p0
  rw [if_pos ⟨by decide, hd⟩, if_pos ⟨by decide, hd⟩] at this
  exact this
theorem RS_fgN (m : mtt s0 t n sg) (r : RS s0 s1 w p dr) (p0 : 0 ≤ p) (hd : ¬ (48 ≤ lkp n sg p ∧ lkp n sg p ≤ 48 + h)) : RS s0 (fgS s1 t h) 0 p dr := by
  have := RS_fg (h := h) m r p0
  rw [if_neg (fun z => hd z.2), if_neg (fun z => hd z.2)] at this
  exact this
theorem RS_fg0 (m : mtt s0 t n sg) (r : RS s0 s1 0 p dr) (p0 : 0 ≤ p) : RS s0 (fgS s1 t h) 0 p dr := by
  have := RS_fg (h := h) m r p0
  rw [if_neg (fun z => z.1 rfl), if_neg (fun z => z.1 rfl)] at this
  exact this
theorem RS_sk0 (m : mtt s0 t n sg) (r : RS s0 s1 0 p dr) (p0 : 0 ≤ p) : RS s0 (skS s1 t) 0 p dr := by
  have := RS_sk m r p0
  rw [if_pos rfl] at this
  exact this
theorem RS_sk1 (m : mtt s0 t n sg) (r : RS s0 s1 1 p dr) (p0 : 0 ≤ p) : RS s0 (skS s1 t) 1 (skb n sg p) dr := by
  have := RS_sk m r p0
  rw [if_neg (by decide)] at this
  exact this
theorem sp_readsWoodM (m : mtt s t n sg) (hw : s 77 19 = 1) (p0 : 0 ≤ s 77 18) (pn : s 77 18 ≤ n) (q : Int) (hq : q = skb n sg (s 77 18)) (kk : ∀ (s' : m_St) (w' p' : Int) (dr' : Int → Int), RS s s' w' p' dr' → ((fW n sg q = -9 ∧ w' = 1 ∧ p' = skb n sg (q + 3) ∧ dr' = setf (setf (s 84) 1 (10 * (at_ n sg (q + 1) - 48) + (at_ n sg (q + 2) - 48))) 2 (10 * (at_ n sg (q + 1) - 48) + (at_ n sg (q + 2) - 48))) ∨ (¬ fW n sg q = -9 ∧ w' = 0 ∧ p' = fW n sg q)) → P none s') : Cl X (d + 2) 174 [vR 77, vI t] s P := by
  obtain ⟨t0, t4, ht, e1, e2⟩ := m
  have m : mtt s t n sg := ⟨t0, t4, ht, e1, e2⟩
  have sr := skb_r (sg := sg) pn
  rw [← hq] at sr
  have R0 : RS s s 1 (s 77 18) (s 84) := by have := RS_rfl (s := s); rw [hw] at this; exact this
  have R1 : RS s (skS s t) 1 q (s 84) := by have := RS_sk1 m R0 p0; rw [← hq] at this; exact this
  have n6 := ht.2.1
  have A18 := R1.2.2.1
  have L1 := RS_lk m R1 (by omega)
  have b0 := lkp_r ht (p := q) (by omega)
  have b1 := lkp_r ht (p := q + 1) (by omega)
  have b2 := lkp_r ht (p := q + 2) (by omega)
  have D0 := RS_rdk m R0 (by omega) (by omega) (by omega)
  have D1 := RS_rdk m R1 (by omega) (by omega) (by omega)
  have lr := lkM_r D1
  by_cases h0 : lkp n sg q = 119
  · have Ra : RS s (m_upd (m_upd (skS s t) 77 19 1) 77 18 ((skS s t) 77 18 + 1)) 1 (q + 1) (s 84) := by rw [A18]; exact RS_18 (RS_19 R1)
    have Da := RS_rdk m Ra (by omega) (by omega) (by omega)
    have LB := RS_lk m Ra (by omega)
    by_cases h1 : 48 ≤ lkp n sg (q + 1) ∧ lkp n sg (q + 1) ≤ 48 + 9
    · have Rb := RS_fgY (h := 9) m Ra (by omega) h1
      rw [show q + 1 + 1 = q + 2 by omega] at Rb
      have Db := RS_rdk m Rb (by omega) (by omega) (by omega)
      have LC := RS_lk m Rb (by omega)
      by_cases h2 : 48 ≤ lkp n sg (q + 2) ∧ lkp n sg (q + 2) ≤ 48 + 9
      · have Rc := RS_fgY (h := 9) m Rb (by omega) h2
        rw [show q + 2 + 1 = q + 3 by omega] at Rc
        have w19 := Rc.2.1
        have w18 := Rc.2.2.1
        have f1 := RS_rdk m (RS_84 (j := 2) (v := (10 * (lkM (m_upd (m_upd (skS s t) 77 19 1) 77 18 ((skS s t) 77 18 + 1)) t - 48)) + (lkM (fgS (m_upd (m_upd (skS s t) 77 19 1) 77 18 ((skS s t) 77 18 + 1)) t 9) t - 48)) (RS_84 (j := 1) (v := (10 * (lkM (m_upd (m_upd (skS s t) 77 19 1) 77 18 ((skS s t) 77 18 + 1)) t - 48)) + (lkM (fgS (m_upd (m_upd (skS s t) 77 19 1) 77 18 ((skS s t) 77 18 + 1)) t 9) t - 48)) Rc)) (by omega) (by omega) (by omega)
        have hfW : fW n sg q = if 40 < 10 * (at_ n sg (q + 1) - 48) + (at_ n sg (q + 2) - 48) then q + 1 else -9 := by
          unfold fW
          rw [if_neg (by omega), if_neg (by omega), if_neg (by omega)]
        apply t_X6_readsWood t0 t4 <;> intros
        all_goals first | omega | exact D0 | exact D1 | exact Da | exact Db | exact f1 | skip
        · next g1 g2 g3 =>
          refine kk _ _ _ _ (RS_sk1 m (RS_84 (RS_84 Rc)) (by omega)) (Or.inl ⟨?_, rfl, rfl, ?_⟩)
          · rw [hfW, if_neg (by omega)]
          · rw [LB, LC, show lkp n sg (q + 1) = at_ n sg (q + 1) by omega, show lkp n sg (q + 2) = at_ n sg (q + 2) by omega]
        · next g1 g2 g3 =>
          rw [w18]
          exact RS_rdk m (RS_84 (RS_84 (RS_18 (RS_19 Rc)))) (by omega) (by omega) (by omega)
        · next g1 g2 g3 =>
          rw [w18]
          refine kk _ _ _ _ (RS_sk0 m (RS_84 (RS_84 (RS_18 (RS_19 Rc)))) (by omega)) (Or.inr ⟨?_, rfl, ?_⟩)
          · rw [hfW, if_pos (by omega)]; omega
          · rw [hfW, if_pos (by omega)]; omega
      · have Rc := RS_fgN (h := 9) m Rb (by omega) h2
        have w19 := Rc.2.1
        have hfW : fW n sg q = q + 2 := by
          unfold fW
          rw [if_neg (by omega), if_neg (by omega), if_pos (by omega)]
        apply t_X6_readsWood t0 t4 <;> intros
        all_goals first | omega | exact D0 | exact D1 | exact Da | exact Db | skip
        · exact RS_rdk m (RS_84 (RS_84 Rc)) (by omega) (by omega) (by omega)
        · exact kk _ _ _ _ (RS_sk0 m (RS_84 (RS_84 Rc)) (by omega)) (Or.inr ⟨by omega, rfl, by omega⟩)
    · have Rb := RS_fgN (h := 9) m Ra (by omega) h1
      have Db := RS_rdk m Rb (by omega) (by omega) (by omega)
      have Rc := RS_fg0 (h := 9) m Rb (by omega)
      have w19 := Rc.2.1
      have hfW : fW n sg q = q + 1 := by
        unfold fW
        rw [if_neg (by omega), if_pos (by omega)]
      apply t_X6_readsWood t0 t4 <;> intros
      all_goals first | omega | exact D0 | exact D1 | exact Da | exact Db | skip
      · exact RS_rdk m (RS_84 (RS_84 Rc)) (by omega) (by omega) (by omega)
      · exact kk _ _ _ _ (RS_sk0 m (RS_84 (RS_84 Rc)) (by omega)) (Or.inr ⟨by omega, rfl, by omega⟩)
  · have Ra : RS s (m_upd (m_upd (skS s t) 77 19 0) 77 18 ((skS s t) 77 18)) 0 q (s 84) := by rw [A18]; exact RS_18 (RS_19 R1)
    have Da := RS_rdk m Ra (by omega) (by omega) (by omega)
    have Rb := RS_fg0 (h := 9) m Ra (by omega)
    have Db := RS_rdk m Rb (by omega) (by omega) (by omega)
    have Rc := RS_fg0 (h := 9) m Rb (by omega)
    have w19 := Rc.2.1
    have hfW : fW n sg q = q := by
      unfold fW
      rw [if_pos (by omega)]
    apply t_X6_readsWood t0 t4 <;> intros
    all_goals first | omega | exact D0 | exact D1 | exact Da | exact Db | skip
    · exact kk _ _ _ _ (RS_sk0 m (RS_84 (RS_84 Rc)) (by omega)) (Or.inr ⟨by omega, rfl, by omega⟩)
end SPRC
