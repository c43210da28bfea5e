/-! calls; and so every run -/
theorem m_il_use {o ix : Nat} {e : Nat × Nat × Nat × Nat × Nat × Nat × Nat} (h : m_il.lookup (o, ix) = some e) :
    e.2.1 < m_law ∧ m_o e.2.1 < 8 ∧ (m_y e.2.1).cls ≠ "java/lang/invoke/MethodHandle" ∧ (m_y e.2.1).cls ≠ "java/lang/invoke/VarHandle" ∧ (parseMethodDescriptor (m_y e.2.1).desc).map (fun d => d.parameters.length) = some e.2.2.1 ∧ Cond.initialized (m_y e.2.1).cls ∈ m_tb ∧
    ((e.1 = 0 ∧ Cond.methodLink (m_cn o) ix (m_y e.2.1) ∈ m_tb ∧ Cond.instanceMethod (m_y e.2.1) ∈ m_tb ∧ Cond.selects (m_y e.2.1).cls (m_y e.2.1) (m_y e.2.1) ∈ m_tb) ∨
     (e.1 = 1 ∧ Cond.methodLink (m_cn o) ix (m_y e.2.1) ∈ m_tb ∧ Cond.static (m_y e.2.1) ∈ m_tb) ∨
     (e.1 = 2 ∧ Cond.methodLink (m_cn o) ix (m_y e.2.1) ∈ m_tb ∧ Cond.instanceMethod (m_y e.2.1) ∈ m_tb ∧ (m_y e.2.1).name = "<init>" ∧ m_r e.2.1 = none) ∨
     (e.1 = 3 ∧ Cond.methodLinkNest (m_cn o) ix (m_y e.2.1) "SnowHut" ∈ m_nw ∧ Cond.static (m_y e.2.1) ∈ m_tb) ∨
     (e.1 = 4 ∧ Cond.methodLinkNest (m_cn o) ix (m_y e.2.1) "SnowHut" ∈ m_nw ∧ Cond.instanceMethod (m_y e.2.1) ∈ m_tb ∧ (m_y e.2.1).name = "<init>" ∧ m_r e.2.1 = none)) := by
  have h1 := List.all_eq_true.mp m_il_ok _ (m_lookup h)
  obtain ⟨kd, y, n, w1, w2, w3, w4⟩ := e
  unfold m_ilc at h1
  dsimp only at h1 ⊢
  simp only [Bool.and_eq_true, decide_eq_true_eq] at h1
  obtain ⟨⟨⟨⟨⟨⟨g1, g2⟩, g3⟩, g4⟩, g5⟩, g6⟩, g7⟩ := h1
  refine ⟨g1, g2, g3, g4, g5, m_has_mem g6, ?_⟩
  split at g7
  · simp only [Bool.and_eq_true] at g7
    exact Or.inl ⟨rfl, m_has_mem g7.1.1, m_has_mem g7.1.2, m_has_mem g7.2⟩
  · simp only [Bool.and_eq_true] at g7
    exact Or.inr (Or.inl ⟨rfl, m_has_mem g7.1, m_has_mem g7.2⟩)
  · simp only [Bool.and_eq_true, decide_eq_true_eq] at g7
    exact Or.inr (Or.inr (Or.inl ⟨rfl, m_has_mem g7.1.1.1, m_has_mem g7.1.1.2, g7.1.2, g7.2⟩))
  · simp only [Bool.and_eq_true, decide_eq_true_eq] at g7
    exact Or.inr (Or.inr (Or.inr (Or.inl ⟨rfl, g7.1, m_has_mem g7.2⟩)))
  · simp only [Bool.and_eq_true, decide_eq_true_eq] at g7
    exact Or.inr (Or.inr (Or.inr (Or.inr ⟨rfl, g7.1.1.1, m_has_mem g7.1.1.2, g7.1.2, g7.2⟩)))
  · cases g7
section MCL
variable {p : Program} {l : Launch} {e : Env} {R : Room} {s : State} {m : MethodId} {args : Array Value} {below : List Frame} {meth : Method} {c : Code} {H : Heap} {locs : List Loc} {cells slots : Nat} {Q : State → Prop}
variable {k pc len nL N0 S0 : Nat} {X : List Int32} {D : va_G} {dA : Nat → ClassId} {A : Nat → Prop} {ad0 ad : Nat → Nat} {L : m_L} {st : List Value} {h : m_H} {ls : Array Slot} {q : m_S}
/-- the callee's free cells are the caller's -/
theorem m_free (C : m_C k X p R s m args meth c D dA A ad0) (I : m_I D dA A s ad0 ad N0 S0 h H locs cells slots) : ∀ q, va_A (m_ws dA ad h) H.size q → A q := by
  intro q hq
  rcases hq with ⟨k9, e9, hq⟩ | hq
  · exact I.2.1.2 k9 _ hq
  · exact C.2.2.2.2.2.2.2.1 q (Nat.le_trans I.2.2.1.1 hq)
/-- what a callee finds -/
theorem m_pre (C : m_C k X p R s m args meth c D dA A ad0) (I : m_I D dA A s ad0 ad N0 S0 h H locs cells slots) {U : State} (hU : U.heap = H) (hW : s.WarmedH U.vm) : U.heap.size = H.size ∧ m_W0 X D dA ad h U := by
  refine ⟨by rw [hU], by rw [hU]; exact I.1, va_K.moved hW.alike C.2.2.2.2.2.2.1, I.2.1.weaken (fun _ _ _ _ => trivial), m_NW_warm hW C.2.2.2.2.2.1, ?_, I.2.2.2.2.2.2⟩
  have h1 := m_EX_moved hW.alike C.2.2.2.2.2.2.2.2.1
  have h2 := m_EX_kept (B := va_A (m_ws dA ad h) H.size) h1 I.2.2.1.1 I.2.2.1.2.1 (m_free C I)
  have h3 := m_EX_ad (ad' := ad) h2 (fun a ha => m_I_big I ha)
  rw [hU]
  exact h3
theorem m_okc_ag {L : m_L} {r : List Value} {h h1 : m_H} {ad ad1 : Nat → Nat} {ls : Array Slot} {nL : Nat} (hok : m_okc L r h h1 = true) (ha : ∀ a : Nat, a < h.length ∨ h1.length ≤ a → ad1 a = ad a) (hl : m_lo ls nL L ad) : r.map (m_cv ad1) = r.map (m_cv ad) ∧ m_lo ls nL L ad1 := by
  unfold m_okc at hok
  rw [Bool.or_eq_true, decide_eq_true_eq, Bool.and_eq_true] at hok
  rcases hok with hok | ⟨h2, h3⟩
  · have hall : ∀ v : Value, m_cv ad1 v = m_cv ad v := fun v => by
      cases v with
      | ref a =>
        show Value.ref (ad1 a) = Value.ref (ad a)
        rw [ha a (by omega)]
      | _ => rfl
    exact ⟨List.map_congr_left fun v _ => hall v, m_lo_ext hl fun _ v _ => hall v⟩
  · exact ⟨m_ext_st ha h3, m_ext_lo ha h2 hl⟩
/-- behind a call -/
theorem m_after (C : m_C k X p R s m args meth c D dA A ad0) (I : m_I D dA A s ad0 ad N0 S0 h H locs cells slots) (hl : m_lo ls (m_n k) L ad) {v1 : Option Value} {h1 : m_H} {r : List Value} {a : Array Value} (hmono : h.length ≤ h1.length ∧ m_sl h ≤ m_sl h1) (hok : m_okc L r h h1 = true)
    (hr : va_Run p l e R s m args below meth c H locs cells slots (h1.length - h.length) (m_sl h1 - m_sl h) (F0 m pc ls (st.map (m_cv ad))) (r.map (m_cv ad)) (m_Qc v1 (m_B D dA ad h h1 (va_A (m_ws dA ad h) H.size)) (va_A (m_ws dA ad h) H.size) a) (va_A (m_ws dA ad h) H.size))
    (kk : m_KK p l e R s m args below meth c Q D dA A ad0 N0 S0 (m_n k) (pc + 3, L, m_push v1 r, h1)) : W p l e R s m args below meth c H locs cells slots Q (F0 m pc ls (st.map (m_cv ad))) := by
  have hF := m_free C I
  have go : ∀ (ad1 : Nat → Nat) (t : State) (H1 : Heap) (locs1 : List Loc), t.heap = H1 → m_B D dA ad h h1 (va_A (m_ws dA ad h) H.size) ad1 t → va_S A s.heap H1 locs1 →
      m_I D dA A s ad0 ad1 N0 S0 h1 H1 locs1 (cells + (h1.length - h.length)) (slots + (m_sl h1 - m_sl h)) ∧ r.map (m_cv ad1) = r.map (m_cv ad) ∧ m_lo ls (m_n k) L ad1 := by
    intro ad1 t H1 locs1 ht hB hS
    obtain ⟨b1, b2, b3, b4⟩ := hB
    obtain ⟨-, -, -, i4, i5, i6, i7⟩ := I
    rw [ht] at b2
    refine ⟨⟨b2, b3.weaken (fun k9 q9 _ hq => hF _ hq), hS, by omega, by omega, fun a9 h9 => ?_, b4⟩, m_okc_ag hok b1 hl⟩
    rw [b1 a9 (by omega)]
    exact i6 a9 (by omega)
  cases v1 with
  | none =>
    refine va_callv (S := Nat → Nat) (post := fun _ => True) (B := m_B D dA ad h h1 (va_A (m_ws dA ad h) H.size)) (A1 := va_A (m_ws dA ad h) H.size) (a := a) hr I.2.2.1 (fun q _ hq => hF q hq) hF (fun ad1 t H1 locs1 ht hvm _ hB hz hk1 hS => ?_)
    obtain ⟨g1, g2, g3⟩ := go ad1 t H1 locs1 ht hB hS
    have := kk ad1 H1 locs1 _ _ ls g1 g3
    dsimp only [m_push] at this
    rw [g2] at this
    exact this
  | some v =>
    cases v with
    | int x =>
      refine va_calli (S := Nat → Nat) (post := fun rr _ => rr = x) (B := m_B D dA ad h h1 (va_A (m_ws dA ad h) H.size)) (A1 := va_A (m_ws dA ad h) H.size) (a := a) hr I.2.2.1 (fun q _ hq => hF q hq) hF (fun rr ad1 t H1 locs1 ht hvm hp hB hz hk1 hS => ?_)
      obtain ⟨g1, g2, g3⟩ := go ad1 t H1 locs1 ht hB hS
      subst hp
      have := kk ad1 H1 locs1 _ _ ls g1 g3
      dsimp only [m_push] at this
      rw [List.map_cons, g2] at this
      exact this
    | long x =>
      refine va_calll (S := Nat → Nat) (post := fun rr _ => rr = x) (B := m_B D dA ad h h1 (va_A (m_ws dA ad h) H.size)) (A1 := va_A (m_ws dA ad h) H.size) (a := a) hr I.2.2.1 (fun q _ hq => hF q hq) hF (fun rr ad1 t H1 locs1 ht hvm hp hB hz hk1 hS => ?_)
      obtain ⟨g1, g2, g3⟩ := go ad1 t H1 locs1 ht hB hS
      subst hp
      have := kk ad1 H1 locs1 _ _ ls g1 g3
      dsimp only [m_push] at this
      rw [List.map_cons, g2] at this
      exact this
    | ref x =>
      refine va_callr (S := Nat → Nat) (post := fun _ => True) (B := fun ad' a t => a = ad' x ∧ m_B D dA ad h h1 (va_A (m_ws dA ad h) H.size) ad' t) (A1 := va_A (m_ws dA ad h) H.size) (a := a) hr I.2.2.1 (fun q _ hq => hF q hq) hF (fun ad1 ra t H1 locs1 ht hvm hp hB hz hk1 hS => ?_)
      obtain ⟨hra, hB⟩ := hB
      subst hra
      obtain ⟨g1, g2, g3⟩ := go ad1 t H1 locs1 ht hB hS
      have := kk ad1 H1 locs1 _ _ ls g1 g3
      dsimp only [m_push] at this
      rw [List.map_cons, g2] at this
      exact this
    | _ =>
      intro T hT Xs
      obtain ⟨_, _, _, _, _, _, _, _, _, _, hq, _⟩ := hr T hT Xs
      exact hq.elim
theorem m_GoodV {o ix y : Nat} (hy : y < m_law) (w1 : Cond.methodLink (m_cn o) ix (m_y y) ∈ m_tb) (w2 : Cond.instanceMethod (m_y y) ∈ m_tb) (w3 : Cond.selects (m_y y).cls (m_y y) (m_y y) ∈ m_tb) (w4 : Cond.initialized (m_y y).cls ∈ m_tb) : GoodIn m_tb (wsV (m_cn o) ix (m_y y).cls (m_y y) (m_words y)) := by
  intro w hw
  have h1 : w ∈ m_tb := by
    rcases List.mem_append.mp hw with h | h
    · simp only [List.mem_cons, List.mem_nil_iff, or_false] at h
      rcases h with rfl | rfl | rfl | rfl <;> assumption
    · exact (m_words_good y hy w h).1
  exact ⟨h1, m_good w h1⟩
theorem m_GoodS {o ix y : Nat} (hy : y < m_law) (w1 : Cond.methodLink (m_cn o) ix (m_y y) ∈ m_tb) (w2 : Cond.static (m_y y) ∈ m_tb) (w4 : Cond.initialized (m_y y).cls ∈ m_tb) : GoodIn m_tb (va_wsS (m_cn o) ix (m_y y) (m_words y)) := by
  intro w hw
  have h1 : w ∈ m_tb := by
    rcases List.mem_append.mp hw with h | h
    · simp only [List.mem_cons, List.mem_nil_iff, or_false] at h
      rcases h with rfl | rfl | rfl <;> assumption
    · exact (m_words_good y hy w h).1
  exact ⟨h1, m_good w h1⟩
theorem m_rm_ok {d y mc ms : Nat} (hy : y < m_law) (hd : d + 1 + 1 ≤ R.frames ∧ 38 * (d + 1 + 1) ≤ R.locals) : (m_rm d mc ms).frames + 1 ≤ R.frames ∧ 8 + (m_n y + 11) + (m_rm d mc ms).locals ≤ R.locals := by
  have := m_n_ok y hy
  refine ⟨hd.1, ?_⟩
  show 8 + (m_n y + 11) + 38 * (d + 1) ≤ R.locals
  omega
theorem m_sum_le {r : List Value} (h : m_sum r ≤ 8) : 2 * (F0 m pc ls (st.map (m_cv ad))).monitorRoom + (((r.map (m_cv ad)).map fun v => v.category).sum) ≤ 8 := by
  rw [m_sum_cv]
  show 2 * 0 + m_sum r ≤ 8
  omega
/-- a call is a run -/
theorem m_call {d y : Nat} {As r : List Value} {i : Instr} (C : m_C k X p R s m args meth c D dA A ad0) (I : m_I D dA A s ad0 ad N0 S0 h H locs cells slots) (hl : m_lo ls (m_n k) L ad) {v1 : Option Value} {h1 : m_H} (hcs : cells + (h1.length - h.length) ≤ R.cells ∧ slots + (m_sl h1 - m_sl h) ≤ R.slots) (hd : d + 1 + 1 ≤ R.frames ∧ 38 * (d + 1 + 1) ≤ R.locals)
    (hdec : decode (m_b k) pc = .ok (i, m_ln i len)) (hinv : m_inv k i st h = some (y, As, r)) (hlay : (m_lay As).length ≤ m_n y) (hM : ∀ (_ : y < m_law) (_ : m_o y < 8), m_Mt l X D dA d y As ad h v1 h1 H.size) :
    va_Run p l e R s m args below meth c H locs cells slots (h1.length - h.length) (m_sl h1 - m_sl h) (F0 m pc ls (st.map (m_cv ad))) (r.map (m_cv ad)) (m_Qc v1 (m_B D dA ad h h1 (va_A (m_ws dA ad h) H.size)) (va_A (m_ws dA ad h) H.size) (As.map (m_cv ad)).toArray) (va_A (m_ws dA ad h) H.size) := by
  have S : CallFix p m c (m_b k) (m_n k) s args m_tb (m_cn (m_o k)) := ⟨C.1, C.2.1, C.2.2.1, C.2.2.2.1, C.2.2.2.2.1⟩
  have hts := C.2.2.2.2.1
  cases i
  all_goals first | (cases hinv; done) | skip
  case invokevirtual ix =>
    simp only [m_inv] at hinv
    split at hinv
    · next kd y0 n w hlk =>
      split at hinv
      · next b r0 hdrop =>
        obtain ⟨⟨hk0, hsum, hn, hcl, hcl2⟩, e1⟩ := m_c_s hinv
        cases e1
        obtain ⟨u1, u2, u3, u4, u5, u6, u7⟩ := m_il_use hlk
        dsimp only at u1 u2 u3 u4 u5 u6 u7
        subst hk0
        rcases u7 with ⟨-, w1, w2, w3⟩ | ⟨z, -⟩ | ⟨z, -⟩ | ⟨z, -⟩ | ⟨z, -⟩
        · obtain ⟨cb, hcb, hcb1⟩ := Option.map_eq_some_iff.mp hcl
          obtain ⟨tg, vs⟩ := cb
          rw [hcb] at hcl2
          have hlt : tg < m_cl.length := by simpa using hcl2
          have hq : m_cl[tg]? = some m_cl[tg] := List.getElem?_eq_getElem hlt
          rw [m_cls_of hq] at hcb1
          have hws := m_ws_at (dA := dA) (ad := ad) hcb
          rw [m_ent1_o (m_cl_lt hq)] at hws
          have hrecv := va_recv C.2.2.2.2.2.2.1 I.1 hq hws
          rw [hcb1] at hrecv
          have hst : st = st.take n ++ .ref b :: r := by rw [← hdrop, List.take_append_drop]
          have hM' := hM u1 u2
          unfold m_Mt at hM'
          rw [List.map_cons] at hM'
          refine va_runV (C := (m_y y).cls) (b := ad b) (As := ((st.take n).reverse).map (m_cv ad)) (rest := r.map (m_cv ad)) (n := n) (own := m_cn (m_o k)) (index := ix) (nL := m_n k) S hM' (cwV n hts (m_GoodV u1 w1 w2 w3 u6) rfl rfl rfl ⟨rfl, u3, u4, u5⟩ (m_rm_ok u1 hd)) ⟨m_W0_blind, hrecv, fun U hU hW => ⟨rfl, m_pre C I hU hW⟩⟩ rfl ?_ hl.1 ?_ (m_sum_le hsum) hdec hcs
          · rw [List.length_map, List.length_reverse, List.length_take]
            omega
          · show st.map (m_cv ad) = _
            rw [← List.map_reverse, List.reverse_reverse]
            conv => lhs; rw [hst]
            rw [List.map_append, List.map_cons]
            rfl
        · cases z
        · cases z
        · cases z
        · cases z
      · cases hinv
    · cases hinv
  case invokestatic ix =>
    simp only [m_inv] at hinv
    split at hinv
    · next kd y0 n w hlk =>
      obtain ⟨⟨hk0, hsum, hn⟩, e1⟩ := m_c_s hinv
      cases e1
      obtain ⟨u1, u2, u3, u4, u5, u6, u7⟩ := m_il_use hlk
      dsimp only at u1 u2 u3 u4 u5 u6 u7
      have hM' := hM u1 u2
      unfold m_Mt at hM'
      have hlen : (((st.take n).reverse).map (m_cv ad)).length = n := by
        rw [List.length_map, List.length_reverse, List.length_take]
        omega
      have hstk : (F0 m pc ls (st.map (m_cv ad))).stack = (((st.take n).reverse).map (m_cv ad)).reverse ++ (st.drop n).map (m_cv ad) := by
        show st.map (m_cv ad) = _
        rw [← List.map_reverse, List.reverse_reverse, ← List.map_append, List.take_append_drop]
      rcases u7 with ⟨z, -⟩ | ⟨-, w1, w2⟩ | ⟨z, -⟩ | ⟨z, w1, w2⟩ | ⟨z, -⟩
      · rcases hk0 with hk0 | hk0 <;> (rw [hk0] at z; cases z)
      · exact va_runS (As := ((st.take n).reverse).map (m_cv ad)) (rest := (st.drop n).map (m_cv ad)) (n := n) (own := m_cn (m_o k)) (index := ix) (nL := m_n k) S hM' (va_cwS n hts (m_GoodS u1 w1 w2 u6) rfl rfl rfl ⟨u3, u4, u5⟩ (m_rm_ok u1 hd)) ⟨m_W0_blind, fun U hU hW => ⟨rfl, m_pre C I hU hW⟩⟩ rfl hlen hl.1 hstk (m_sum_le hsum) hdec hcs
      · rcases hk0 with hk0 | hk0 <;> (rw [hk0] at z; cases z)
      · exact va_runSN (As := ((st.take n).reverse).map (m_cv ad)) (rest := (st.drop n).map (m_cv ad)) (n := n) (own := m_cn (m_o k)) (index := ix) (nL := m_n k) (host := "SnowHut") S hM' ⟨va_cnB n hts (m_words_good _ u1) rfl rfl rfl (C.2.2.2.2.2.1.1 _ w1) (hts _ u6) ⟨u3, u4, u5⟩ (m_rm_ok u1 hd), hts _ w2, trivial⟩ ⟨m_W0_blind, fun U hU hW => ⟨rfl, m_pre C I hU hW⟩⟩ rfl hlen hl.1 hstk (m_sum_le hsum) hdec hcs
      · rcases hk0 with hk0 | hk0 <;> (rw [hk0] at z; cases z)
    · cases hinv
  case invokespecial ix =>
    simp only [m_inv] at hinv
    split at hinv
    · next kd y0 n w hlk =>
      split at hinv
      · next b r0 hdrop =>
        obtain ⟨⟨hk0, hsum, hn⟩, e1⟩ := m_c_s hinv
        cases e1
        obtain ⟨u1, u2, u3, u4, u5, u6, u7⟩ := m_il_use hlk
        dsimp only at u1 u2 u3 u4 u5 u6 u7
        have hst : st = st.take n ++ .ref b :: r := by rw [← hdrop, List.take_append_drop]
        have hM' := hM u1 u2
        unfold m_Mt at hM'
        rw [List.map_cons] at hM'
        have hlen : (((st.take n).reverse).map (m_cv ad)).length = n := by
          rw [List.length_map, List.length_reverse, List.length_take]
          omega
        have hstk : (F0 m pc ls (st.map (m_cv ad))).stack = (((st.take n).reverse).map (m_cv ad)).reverse ++ .ref (ad b) :: r.map (m_cv ad) := by
          show st.map (m_cv ad) = _
          rw [← List.map_reverse, List.reverse_reverse]
          conv => lhs; rw [hst]
          rw [List.map_append, List.map_cons]
          rfl
        rcases u7 with ⟨z, -⟩ | ⟨z, -⟩ | ⟨-, w1, w2, w3, w5⟩ | ⟨z, -⟩ | ⟨-, w1, w2, w3, w5⟩
        · rcases hk0 with hk0 | hk0 <;> (rw [hk0] at z; cases z)
        · rcases hk0 with hk0 | hk0 <;> (rw [hk0] at z; cases z)
        · refine va_runI (b := ad b) (As := ((st.take n).reverse).map (m_cv ad)) (rest := r.map (m_cv ad)) (n := n) (own := m_cn (m_o k)) (index := ix) (nL := m_n k) S hM' (cwI (bytes := m_b y) (ws' := m_tb) n hts (m_words_good _ u1) ?_ rfl rfl (hts _ u6) (hts _ w1) (hts _ w2) w3 ⟨u3, u4, u5⟩ (m_rm_ok u1 hd)) ⟨m_W0_blind, fun U hU hW => ⟨rfl, m_pre C I hU hW⟩⟩ rfl hlen hl.1 hstk (m_sum_le hsum) hdec hcs
          unfold m_words
          rw [w5]
        · rcases hk0 with hk0 | hk0 <;> (rw [hk0] at z; cases z)
        · have hcn := va_cnB (maxL := m_n y) (bytes := m_b y) (ret := m_r y) n hts (m_words_good _ u1) rfl (rm := m_rm d (h1.length - h.length) (m_sl h1 - m_sl h)) rfl rfl (C.2.2.2.2.2.1.1 _ w1) (hts _ u6) ⟨u3, u4, u5⟩ (m_rm_ok u1 hd)
          rw [w5] at hcn
          exact va_runIN (b := ad b) (As := ((st.take n).reverse).map (m_cv ad)) (rest := r.map (m_cv ad)) (n := n) (own := m_cn (m_o k)) (index := ix) (nL := m_n k) (host := "SnowHut") S hM' ⟨hcn, w3, hts _ w2⟩ ⟨m_W0_blind, fun U hU hW => ⟨rfl, m_pre C I hU hW⟩⟩ rfl hlen hl.1 hstk (m_sum_le hsum) hdec hcs
      · cases hinv
    · cases hinv
end MCL
theorem m_BD_all (l : Launch) (X : List Int32) (hX : X.length < 2 ^ 31) : ∀ n, m_BD l X n := by
  intro n
  induction n with
  | zero =>
    intro p e R s m args below meth c Q D dA A ad0 ad N0 S0 d k pc L st h v h' H locs cells slots ls C I hl hR hd hrun RR
    cases hrun
  | succ n ih =>
    intro p e R s m args below meth c Q D dA A ad0 ad N0 S0 d k pc L st h v h' H locs cells slots ls C I hl hR hd hrun RR
    rw [m_run.eq_def] at hrun
    dsimp only at hrun
    split at hrun
    · cases hrun
    · next i len hdec =>
      split at hrun
      · next hlen =>
        rw [hlen] at hdec
        split at hrun
        · next v0 hret =>
          cases hrun
          exact RR i pc st ad H locs cells slots ls (by rw [m_len1 hret] at hdec; exact hdec) hret I
        · split at hrun
          · next y As r hinv =>
            split at hrun
            · cases hrun
            · next d' =>
              split at hrun
              · next hlay =>
                split at hrun
                · next v1 h1 hr1 =>
                  split at hrun
                  · next hok =>
                    have m1 := m_run_h _ _ _ _ _ _ _ _ _ hr1
                    have m2 := m_run_h _ _ _ _ _ _ _ _ _ hrun
                    obtain ⟨-, -, -, i4, i5, -, -⟩ := id I
                    refine m_after C I hl m1 hok (m_call (d := d') C I hl (by omega) hd hdec hinv hlay (fun u1 u2 => m_Mt_of hX ih u1 u2 hlay hr1 H.size)) ?_
                    intro ad1 H1 locs1 cells1 slots1 ls1 I1 hl1
                    exact ih p e R s m args below meth c Q D dA A ad0 ad1 N0 S0 (d' + 1) k (pc + 3) L (m_push v1 r) h1 v h' H1 locs1 cells1 slots1 ls1 C I1 hl1 hR hd hrun RR
                  · cases hrun
                · cases hrun
              · cases hrun
          · split at hrun
            · next q hq =>
              have m2 := m_run_h _ _ _ _ _ _ _ _ _ hrun
              refine m_step_ok C I hl (by omega) hdec hq ?_
              intro ad1 H1 locs1 cells1 slots1 ls1 I1 hl1
              exact ih p e R s m args below meth c Q D dA A ad0 ad1 N0 S0 d k q.1 q.2.1 q.2.2.1 q.2.2.2 v h' H1 locs1 cells1 slots1 ls1 C I1 hl1 hR hd hrun RR
            · cases hrun
      · cases hrun
