/-! the rows of the instructions that make cells, and of the natives -/
theorem m_ext_v {lo hi : Nat} {ad ad' : Nat → Nat} {v : Value} (ha : ∀ a : Nat, a < lo ∨ hi ≤ a → ad' a = ad a) (h : m_okv lo hi v = true) : m_cv ad' v = m_cv ad v := by
  cases v with
  | ref a =>
    have h1 : a < lo ∨ hi ≤ a := by simpa [m_okv] using h
    show Value.ref (ad' a) = Value.ref (ad a)
    rw [ha a h1]
  | _ => rfl
theorem m_ext_r {lo hi : Nat} {ad ad' : Nat → Nat} {v : Value} (ha : ∀ a : Nat, a < lo ∨ hi ≤ a → ad' a = ad a) (h : m_okv lo hi v = true) : (m_toR v).map ad' = (m_toR v).map ad := by
  cases v with
  | ref a =>
    have h1 : a < lo ∨ hi ≤ a := by simpa [m_okv] using h
    show some (ad' a) = some (ad a)
    rw [ha a h1]
  | _ => rfl
theorem m_ext_ent {dA : Nat → ClassId} {lo hi : Nat} {ad ad' : Nat → Nat} {c : Nat × List Value} (ha : ∀ a : Nat, a < lo ∨ hi ≤ a → ad' a = ad a) (h : c.2.all (m_okv lo hi) = true) : m_ent1 dA ad' c = m_ent1 dA ad c := by
  have hr : (fun j => (m_toR (c.2.getD j .null)).map ad') = fun j => (m_toR (c.2.getD j .null)).map ad := by
    funext j
    rw [List.getD_eq_getElem?_getD]
    cases e : c.2[j]? with
    | none => rfl
    | some v => exact m_ext_r ha (List.all_eq_true.mp h v (List.mem_of_getElem? e))
  have hv : c.2.map (m_cv ad') = c.2.map (m_cv ad) := List.map_congr_left fun v hv => m_ext_v ha (List.all_eq_true.mp h v hv)
  unfold m_ent1
  rw [hr, hv]
theorem m_ext_ws {dA : Nat → ClassId} {lo hi : Nat} {ad ad' : Nat → Nat} {h : m_H} (ha : ∀ a : Nat, a < lo ∨ hi ≤ a → ad' a = ad a) (hl : h.length ≤ lo) (hok : m_okH lo hi h = true) : m_ws dA ad' h = m_ws dA ad h := by
  apply List.ext_getElem?
  intro i
  unfold m_ws
  rw [List.getElem?_mapIdx, List.getElem?_mapIdx]
  cases e : h[i]? with
  | none => rfl
  | some c =>
    have hi := (List.getElem?_eq_some_iff.mp e).1
    show some (ad' i, m_ent1 dA ad' c) = some (ad i, m_ent1 dA ad c)
    rw [ha i (Or.inl (by omega)), m_ext_ent ha (List.all_eq_true.mp hok c (List.mem_of_getElem? e))]
theorem m_ext_st {lo hi : Nat} {ad ad' : Nat → Nat} {st : List Value} (ha : ∀ a : Nat, a < lo ∨ hi ≤ a → ad' a = ad a) (h : m_okS lo hi st = true) : st.map (m_cv ad') = st.map (m_cv ad) :=
  List.map_congr_left fun v hv => m_ext_v ha (List.all_eq_true.mp h v hv)
theorem m_ext_lo {lo hi nL : Nat} {ad ad' : Nat → Nat} {L : m_L} {ls : Array Slot} (ha : ∀ a : Nat, a < lo ∨ hi ≤ a → ad' a = ad a) (h : m_okL lo hi L = true) (hl : m_lo ls nL L ad) : m_lo ls nL L ad' :=
  m_lo_ext hl fun _ v hv => m_ext_v ha (List.all_eq_true.mp h (some v) (List.mem_of_getElem? hv))
theorem m_sl_app {h : m_H} {c : Nat × List Value} : m_sl (h ++ [c]) = m_sl h + c.2.length := by
  unfold m_sl
  simp
theorem m_al1_s {L : m_L} {st : List Value} {h : m_H} {c : Nat × List Value} {pc : Nat} {q : m_S} (e : m_al1 L st h c pc = some q) : m_okL h.length (h.length + 1) L = true ∧ m_okS h.length (h.length + 1) st = true ∧ m_okH h.length (h.length + 1) h = true ∧ h.length + 1 ≤ 1000 ∧ q = (pc, L, .ref h.length :: st, h ++ [c]) := by
  unfold m_al1 at e
  split at e
  · next hb =>
    rw [Bool.and_eq_true, Bool.and_eq_true, Bool.and_eq_true, decide_eq_true_eq] at hb
    cases e
    exact ⟨hb.1.1.1, hb.1.1.2, hb.1.2, hb.2, rfl⟩
  · cases e
def m_up (ad : Nat → Nat) (n q : Nat) : Nat → Nat := fun j => if j = n then q else ad j
theorem m_up_ag {ad : Nat → Nat} {n q : Nat} : ∀ a : Nat, a < n ∨ n + 1 ≤ a → m_up ad n q a = ad a := fun a h => if_neg (by omega)
theorem m_up_at {ad : Nat → Nat} {n q : Nat} : m_up ad n q n = q := if_pos rfl
theorem m_all_rep {lo hi n : Nat} {v : Value} (h : m_okv lo hi v = true) : (List.replicate n v).all (m_okv lo hi) = true := by
  apply List.all_eq_true.mpr
  intro w hw
  rw [List.eq_of_mem_replicate hw]
  exact h
theorem m_okv_dflt {lo hi : Nat} {ty : FieldType} : m_okv lo hi (defaultValue ty) = true := by cases ty <;> rfl
theorem m_cv_dflt {ad : Nat → Nat} {ty : FieldType} : m_cv ad (defaultValue ty) = defaultValue ty := by cases ty <;> rfl
/-- the frame behind one new cell -/
theorem m_I_new {D : va_G} {dA : Nat → ClassId} {A : Nat → Prop} {s : State} {ad0 ad : Nat → Nat} {N0 S0 : Nat} {h : m_H} {H H1 : Heap} {locs : List Loc} {cells slots q n : Nat} {c : Nat × List Value}
    (I : m_I D dA A s ad0 ad N0 S0 h H locs cells slots) (hok : m_okH h.length (h.length + 1) h = true) (hb : h.length + 1 ≤ 1000) (hc : c.2.all (m_okv h.length (h.length + 1)) = true) (hn : c.2.length = n)
    (hP : va_P D m_cl (m_ws dA ad h ++ [(q, m_ent1 dA ad c)]) H1) (hD : va_D A (m_ws dA ad h ++ [(q, m_ent1 dA ad c)])) (hS : va_S A s.heap H1 locs) : m_I D dA A s ad0 (m_up ad h.length q) N0 S0 (h ++ [c]) H1 locs (cells + 1) (slots + n) := by
  obtain ⟨-, -, -, h4, h5, h6, h7⟩ := I
  have e : m_ws dA (m_up ad h.length q) (h ++ [c]) = m_ws dA ad h ++ [(q, m_ent1 dA ad c)] := by
    rw [m_ws_app, m_ext_ws m_up_ag (Nat.le_refl _) hok, m_up_at, m_ext_ent m_up_ag hc]
  refine ⟨by rw [e]; exact hP, by rw [e]; exact hD, hS, by rw [List.length_append, List.length_singleton]; omega, by rw [m_sl_app, hn]; omega, fun k hk => ?_, by rw [List.length_append, List.length_singleton]; omega⟩
  rw [List.length_append, List.length_singleton] at hk
  rw [m_up_ag k (by omega)]
  exact h6 k (by omega)
theorem m_nl_use {o ix : Nat} {e : Nat × Nat × Nat × Nat} (h : m_nl.lookup (o, ix) = some e) : ∃ q : vw_C, m_cl[e.1]? = some q ∧ Cond.classLink (m_cn o) ix q.1 ∈ m_tb ∧ Cond.instantiable q.1 q.2.2 ∈ m_tb ∧ Cond.initialized q.1 ∈ m_tb := by
  have h1 := List.all_eq_true.mp m_nl_ok _ (m_lookup h)
  unfold m_nlc at h1
  dsimp only at h1
  split at h1
  · next C T N hq =>
    rw [Bool.and_eq_true, Bool.and_eq_true] at h1
    exact ⟨(C, T, N), hq, m_has_mem h1.1.1, m_has_mem h1.1.2, m_has_mem h1.2⟩
  · cases h1
theorem m_aw_use {w : Cond} (h : w ∈ [Cond.arrayClass .int, .arrayClass .long]) : w ∈ m_tb := by
  have h1 := List.all_eq_true.mp m_aw_ok w h
  rw [Bool.and_eq_true, decide_eq_true_eq] at h1
  exact List.mem_filter.mpr ⟨h1.1, h1.2⟩
section MSC
variable {p : Program} {l : Launch} {e : Env} {R : Room} {s : State} {m : MethodId} {args : Array Value} {below : List Frame} {meth : Method} {c : Code} {H : Heap} {locs : List Loc} {cells slots : Nat} {Q : State → Prop}
variable {k pc len nL N0 S0 : Nat} {X : List Int32} {D : va_G} {dA : Nat → ClassId} {A : Nat → Prop} {ad0 ad : Nat → Nat} {L : m_L} {st : List Value} {h : m_H} {ls : Array Slot} {q : m_S}
theorem ms_new {ix : Nat} (C : m_C k X p R s m args meth c D dA A ad0) (I : m_I D dA A s ad0 ad N0 S0 h H locs cells slots) (hl : m_lo ls (m_n k) L ad) (hR : q.2.2.2.length ≤ R.cells + N0 ∧ m_sl q.2.2.2 ≤ R.slots + S0) (hd : decode (m_b k) pc = .ok (.new ix, m_ln (.new ix) len)) (hs : m_sC k (.new ix) pc L st h = some q) (kk : m_KK p l e R s m args below meth c Q D dA A ad0 N0 S0 (m_n k) q) : W p l e R s m args below meth c H locs cells slots Q (F0 m pc ls (st.map (m_cv ad))) := by
  have hx := C.1
  have hb := C.2.1
  simp only [m_sC] at hs
  split at hs
  · next e9 he9 =>
    obtain ⟨o1, o2, o3, o4, rfl⟩ := m_al1_s hs
    obtain ⟨cq, hcq, w1, w2, w3⟩ := m_nl_use he9
    have hin := m_cl_use hcq
    rw [m_cls_of hcq] at hR kk
    have hlen : ((List.range cq.2.2).map (fun j => defaultValue (m_fty e9.1 j))).length = cq.2.2 := by rw [List.length_map, List.length_range]
    dsimp only at hR
    rw [List.length_append, List.length_singleton, m_sl_app] at hR
    dsimp only at hR
    rw [hlen] at hR
    have i4 := I.2.2.2.1
    have i5 := I.2.2.2.2.1
    refine va_new (D := D) (cl := m_cl) (tys := m_tys dA) (ws := m_ws dA ad h) (ci := e9.1) (fs := (List.range cq.2.2).map (fun j => defaultValue (m_fty e9.1 j))) (C := cq.1) (T := cq.2.1) (N := cq.2.2) (own := m_cn (m_o k)) hx hb C.2.2.2.2.1 hin.1 (m_fty e9.1) hin.2.1 C.2.2.2.1 (C.2.2.2.2.1 _ w1) (C.2.2.2.2.1 _ w2) (C.2.2.2.2.1 _ w3) C.2.2.2.2.2.2.1 I.1 I.2.1 I.2.2.1 C.2.2.2.2.2.2.2.1 hcq (fun j hj => ?_) (by omega) (by omega) hd (fun q0 H1 hP hD hS => ?_)
    · unfold vp_V
      rw [List.getD_eq_getElem?_getD, List.getElem?_map, List.getElem?_range hj]
      rfl
    · have hent : (.inr (e9.1, (List.range cq.2.2).map (fun j => defaultValue (m_fty e9.1 j))) : va_E) = m_ent1 dA ad (e9.1, (List.range cq.2.2).map (fun j => defaultValue (m_fty e9.1 j))) := by
        rw [m_ent1_o (m_cl_lt hcq), List.map_map]
        congr 2
        apply List.map_congr_left
        intro j _
        exact m_cv_dflt.symm
      rw [hent] at hP hD
      have I' := m_I_new (n := cq.2.2) I o3 o4 (c := (e9.1, (List.range cq.2.2).map (fun j => defaultValue (m_fty e9.1 j)))) (by
        apply List.all_eq_true.mpr
        intro w hw
        obtain ⟨j, -, rfl⟩ := List.mem_map.mp hw
        exact m_okv_dflt) hlen hP hD hS
      have kk' := kk _ H1 locs _ _ ls I' (m_ext_lo m_up_ag o1 hl)
      dsimp only at kk'
      rw [List.map_cons, m_ext_st m_up_ag o2] at kk'
      have hq0 : m_cv (m_up ad h.length q0) (.ref h.length) = .ref q0 := by show Value.ref (m_up ad h.length q0 h.length) = _; rw [m_up_at]
      rw [hq0] at kk'
      exact kk'
  · cases hs
theorem ms_newarray {ty : ArrayType} (C : m_C k X p R s m args meth c D dA A ad0) (I : m_I D dA A s ad0 ad N0 S0 h H locs cells slots) (hl : m_lo ls (m_n k) L ad) (hR : q.2.2.2.length ≤ R.cells + N0 ∧ m_sl q.2.2.2 ≤ R.slots + S0) (hd : decode (m_b k) pc = .ok (.newarray ty, m_ln (.newarray ty) len)) (hs : m_sC k (.newarray ty) pc L st h = some q) (kk : m_KK p l e R s m args below meth c Q D dA A ad0 N0 S0 (m_n k) q) : W p l e R s m args below meth c H locs cells slots Q (F0 m pc ls (st.map (m_cv ad))) := by
  have hx := C.1
  have hb := C.2.1
  obtain ⟨n, r, rfl, e1⟩ := m_i_s hs
  obtain ⟨⟨hn, hn2⟩, e1⟩ := m_c_s e1
  have i4 := I.2.2.2.1
  have i5 := I.2.2.2.2.1
  have key : ∀ (t0 t : Nat) (ft : FieldType) (v : Value) (a0 : vp_A), newarray.typeOf ty = ft → Cond.arrayClass ft ∈ m_tb → (m_tys dA)[t0]? = some (dA t, ft) → (∀ x : FieldType, ft ≠ .object x.toString) → (∀ cn, ft ≠ .object cn) → componentBytes ft ≤ 8 → m_okv h.length (h.length + 1) v = true → (∀ cA : ClassId, vp_cell cA a0 = arrV cA n.toNatClampNeg (fun _ => defaultValue ft)) → (.inl (dA t, a0) : va_E) = m_ent1 dA ad (t, List.replicate n.toNatClampNeg v) →
      m_al1 L r h (t, List.replicate n.toNatClampNeg v) (pc + 2) = some q → W p l e R s m args below meth c H locs cells slots Q (F0 m pc ls (.int n :: r.map (m_cv ad))) := by
    intro t0 t ft v a0 hty hw ht0 _ hno hby hv ha0 hent e2
    obtain ⟨o1, o2, o3, o4, rfl⟩ := m_al1_s e2
    dsimp only at hR
    rw [List.length_append, List.length_singleton, m_sl_app] at hR
    dsimp only at hR
    rw [List.length_replicate] at hR
    refine va_newa (D := D) (cl := m_cl) (tys := m_tys dA) (ws := m_ws dA ad h) (ty := ft) (a0 := a0) (N' := n.toNatClampNeg) hx hb (by rw [hty]; exact C.2.2.2.2.1 _ hw) hty C.2.2.2.2.2.2.1 I.1 I.2.1 I.2.2.1 C.2.2.2.2.2.2.2.1 ha0 hn rfl ?_ (by omega) (by omega) hd (fun q0 cA H1 hK1 hP hD hS => ?_)
    · calc n.toNatClampNeg * componentBytes ft ≤ 1000000 * 8 := Nat.mul_le_mul hn2 hby
        _ ≤ 536870912 := by decide
    · have hcA : cA = dA t := by
        have h1 := (C.2.2.2.2.2.2.1.2 t0 _ ht0).2
        have hlt : (m_tys dA).length = 5 := rfl
        have h2 := (hK1.2 5 (cA, ft) (by rw [List.getElem?_append_right (by rw [hlt]; exact Nat.le_refl _), hlt]; rfl)).2
        cases ft with
        | object cn => exact absurd rfl (hno cn)
        | _ =>
          have h3 : some (dA t) = some cA := Eq.trans (Eq.symm (show s.vm.findClass _ = some (dA t) from h1)) h2
          exact (Option.some.inj h3).symm
      subst hcA
      rw [hent] at hP hD
      have I' := m_I_new (n := n.toNatClampNeg) I o3 o4 (c := (t, List.replicate n.toNatClampNeg v)) (m_all_rep hv) List.length_replicate hP hD hS
      have kk' := kk _ H1 locs _ _ ls I' (m_ext_lo m_up_ag o1 hl)
      dsimp only at kk'
      rw [List.map_cons, m_ext_st m_up_ag o2] at kk'
      have hq0 : m_cv (m_up ad h.length q0) (.ref h.length) = .ref q0 := by show Value.ref (m_up ad h.length q0 h.length) = _; rw [m_up_at]
      rw [hq0] at kk'
      exact kk'
  have gi : ∀ j : Nat, m_toI ((List.replicate n.toNatClampNeg (Value.int 0)).getD j .null) = 0 := by
    intro j
    rw [List.getD_eq_getElem?_getD, List.getElem?_replicate]
    split <;> rfl
  have gj : ∀ j : Nat, m_toL ((List.replicate n.toNatClampNeg (Value.long 0)).getD j .null) = 0 := by
    intro j
    rw [List.getD_eq_getElem?_getD, List.getElem?_replicate]
    split <;> rfl
  cases ty with
  | int =>
    refine key 0 20 .int (.int 0) (n.toNatClampNeg, .inl (fun _ => 0)) rfl (m_aw_use (by simp)) rfl (fun x z => by cases z) (fun x z => by cases z) (by decide) rfl (fun cA => rfl) ?_ e1
    rw [m_ent1_20, List.length_replicate]
    congr 4
    funext j
    exact (gi j).symm
  | long =>
    refine key 1 21 .long (.long 0) (n.toNatClampNeg, .inr (.inl (fun _ => 0))) rfl (m_aw_use (by simp)) rfl (fun x z => by cases z) (fun x z => by cases z) (by decide) rfl (fun cA => rfl) ?_ e1
    rw [m_ent1_21, List.length_replicate]
    congr 5
    funext j
    exact (gj j).symm
  | _ => cases e1
theorem m_al_use {o ix : Nat} (h : (m_al.lookup (o, ix)).isSome = true) : Cond.classLink (m_cn o) ix "SnowHut$Guest" ∈ m_tb := by
  obtain ⟨w, hw⟩ := Option.isSome_iff_exists.mp h
  exact m_has_mem (List.all_eq_true.mp m_al_ok _ (m_lookup hw))
theorem ms_anewarray {ix : Nat} (C : m_C k X p R s m args meth c D dA A ad0) (I : m_I D dA A s ad0 ad N0 S0 h H locs cells slots) (hl : m_lo ls (m_n k) L ad) (hR : q.2.2.2.length ≤ R.cells + N0 ∧ m_sl q.2.2.2 ≤ R.slots + S0) (hd : decode (m_b k) pc = .ok (.anewarray ix, m_ln (.anewarray ix) len)) (hs : m_sC k (.anewarray ix) pc L st h = some q) (kk : m_KK p l e R s m args below meth c Q D dA A ad0 N0 S0 (m_n k) q) : W p l e R s m args below meth c H locs cells slots Q (F0 m pc ls (st.map (m_cv ad))) := by
  have hx := C.1
  have hb := C.2.1
  obtain ⟨n, r, rfl, e1⟩ := m_i_s hs
  obtain ⟨⟨hn, hn2, hal⟩, e1⟩ := m_c_s e1
  have i4 := I.2.2.2.1
  have i5 := I.2.2.2.2.1
  obtain ⟨o1, o2, o3, o4, rfl⟩ := m_al1_s e1
  dsimp only at hR
  rw [List.length_append, List.length_singleton, m_sl_app] at hR
  dsimp only at hR
  rw [List.length_replicate] at hR
  refine va_newq (D := D) (cl := m_cl) (tys := m_tys dA) (ws := m_ws dA ad h) (C := "SnowHut$Guest") (own := m_cn (m_o k)) (N' := n.toNatClampNeg) hx hb C.2.2.2.1 (C.2.2.2.2.1 _ (m_al_use hal)) C.2.2.2.2.2.1.2.1 C.2.2.2.2.2.2.1 I.1 I.2.1 I.2.2.1 C.2.2.2.2.2.2.2.1 hn rfl (by omega) (by omega) (by omega) hd (fun q0 cA H1 hK1 hP hD hS => ?_)
  have hcA : cA = dA 23 := by
    obtain ⟨-, -, -, -, -, h1⟩ := (C.2.2.2.2.2.2.1.2 3 (dA 23, .object "SnowHut$Guest") rfl).2
    have hlt : (m_tys dA).length = 5 := rfl
    obtain ⟨-, -, -, -, -, h2⟩ := (hK1.2 5 (cA, .object "SnowHut$Guest") (by rw [List.getElem?_append_right (by rw [hlt]; exact Nat.le_refl _), hlt]; rfl)).2
    exact Option.some.inj (h2.symm.trans h1)
  subst hcA
  have hent : (.inl (dA 23, n.toNatClampNeg, .inr (.inr (.inr (.inr (fun _ => none))))) : va_E) = m_ent1 dA ad (23, List.replicate n.toNatClampNeg .null) := by
    rw [m_ent1_23, List.length_replicate]
    congr 8
    funext j
    rw [List.getD_eq_getElem?_getD, List.getElem?_replicate]
    split <;> rfl
  rw [hent] at hP hD
  have I' := m_I_new (n := n.toNatClampNeg) I o3 o4 (c := (23, List.replicate n.toNatClampNeg .null)) (m_all_rep rfl) List.length_replicate hP hD hS
  have kk' := kk _ H1 locs _ _ ls I' (m_ext_lo m_up_ag o1 hl)
  dsimp only at kk'
  rw [List.map_cons, m_ext_st m_up_ag o2] at kk'
  have hq0 : m_cv (m_up ad h.length q0) (.ref h.length) = .ref q0 := by show Value.ref (m_up ad h.length q0 h.length) = _; rw [m_up_at]
  rw [hq0] at kk'
  exact kk'
theorem m_sum_cv {ad : Nat → Nat} {r : List Value} : ((r.map (m_cv ad)).map fun v => v.category).sum = m_sum r := by
  unfold m_sum
  rw [List.map_map]
  congr 1
  apply List.map_congr_left
  intro v _
  exact m_cv_cat ad v
theorem m_oi_use {o ix : Nat} (h : (m_oi.lookup (o, ix)).isSome = true) : Cond.methodLink (m_cn o) ix objectInit ∈ m_tb ∧ Cond.instanceMethod objectInit ∈ m_tb ∧ Cond.code objectInit ⟨#[0xb1]⟩ 1 none ∈ m_tb := by
  obtain ⟨w, hw⟩ := Option.isSome_iff_exists.mp h
  have h1 := List.all_eq_true.mp m_oi_ok _ (m_lookup hw)
  unfold m_oic at h1
  rw [Bool.and_eq_true, Bool.and_eq_true] at h1
  exact ⟨m_has_mem h1.1.1, m_has_mem h1.1.2, m_has_mem h1.2⟩
theorem ms_objInit {ix : Nat} (C : m_C k X p R s m args meth c D dA A ad0) (I : m_I D dA A s ad0 ad N0 S0 h H locs cells slots) (hl : m_lo ls (m_n k) L ad) (hd : decode (m_b k) pc = .ok (.invokespecial ix, m_ln (.invokespecial ix) len)) (hs : m_sC k (.invokespecial ix) pc L st h = some q) (kk : m_KK p l e R s m args below meth c Q D dA A ad0 N0 S0 (m_n k) q) : W p l e R s m args below meth c H locs cells slots Q (F0 m pc ls (st.map (m_cv ad))) := by
  have hx := C.1
  have hb := C.2.1
  obtain ⟨a, r, rfl, e1⟩ := m_a_s hs
  obtain ⟨⟨h1, h2⟩, e1⟩ := m_c_s e1
  cases e1
  obtain ⟨w1, w2, w3⟩ := m_oi_use h1
  have hloc := C.2.2.2.2.2.2.2.2.2.2.2.1
  refine W.objInit (rest := r.map (m_cv ad)) (a := ad a) hx hb C.2.2.2.1 (C.2.2.2.2.1 _ w1) (C.2.2.2.2.1 _ w2) (C.2.2.2.2.1 _ w3) rfl ?_ rfl hd C.2.2.2.2.2.2.2.2.2.2.1 ?_ ?_
  · rw [C.2.2.1]
    exact hl.1
  · rw [m_sum_cv]
    show 2 * 0 + m_sum r + 12 ≤ R.locals
    omega
  · exact kk ad H locs cells slots ls I hl
theorem m_mm_use {o ix : Nat} {e : Nat × Nat} (h : m_mm.lookup (o, ix) = some e) : Cond.initialized "java/lang/Math" ∈ m_tb ∧ ((e.1 = 0 ∧ Cond.methodLink (m_cn o) ix Lib.Math.max.name ∈ m_tb ∧ Cond.static Lib.Math.max.name ∈ m_tb ∧ Cond.code Lib.Math.max.name Lib.Math.max.code 2 (some .int) ∈ m_tb) ∨ (e.1 = 1 ∧ Cond.methodLink (m_cn o) ix Lib.Math.min.name ∈ m_tb ∧ Cond.static Lib.Math.min.name ∈ m_tb ∧ Cond.code Lib.Math.min.name Lib.Math.min.code 2 (some .int) ∈ m_tb)) := by
  have h1 := List.all_eq_true.mp m_mm_ok _ (m_lookup h)
  unfold m_mmc at h1
  rw [Bool.and_eq_true] at h1
  refine ⟨m_has_mem h1.1, ?_⟩
  have h2 := h1.2
  dsimp only at h2
  split at h2
  · next he =>
    rw [Bool.and_eq_true, Bool.and_eq_true] at h2
    exact Or.inl ⟨he, m_has_mem h2.1.1, m_has_mem h2.1.2, m_has_mem h2.2⟩
  · next he =>
    rw [Bool.and_eq_true, Bool.and_eq_true] at h2
    exact Or.inr ⟨he, m_has_mem h2.1.1, m_has_mem h2.1.2, m_has_mem h2.2⟩
  · cases h2
theorem m_ac_use {o ix : Nat} (h : (m_ac.lookup (o, ix)).isSome = true) : Cond.methodLink (m_cn o) ix arraycopyName ∈ m_tb ∧ Cond.static arraycopyName ∈ m_tb ∧ Cond.initialized "java/lang/System" ∈ m_tb := by
  exact absurd h (by show ¬ ((none : Option Nat).isSome = true); simp)
end MSC
