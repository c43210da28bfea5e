/-! the rows of the instructions that read and write cells -/
theorem m_cls_of {c : Nat} {q : vw_C} (h : m_cl[c]? = some q) : m_cls c = q := by
  unfold m_cls
  rw [List.getD_eq_getElem?_getD, h]
  rfl
theorem m_cl_len : m_cl.length ≤ 10 := by decide +kernel
theorem m_cl_lt {c : Nat} {q : vw_C} (h : m_cl[c]? = some q) : c < 20 := by
  have h1 := (List.getElem?_eq_some_iff.mp h).1
  have h2 := m_cl_len
  omega
theorem m_cl_use {c : Nat} {q : vw_C} (h : m_cl[c]? = some q) : (∀ w ∈ u_ws q.1 q.2.1 q.2.2, w ∈ m_tb) ∧ (∀ k, k < q.2.2 → parseFieldDescriptor (q.2.1 k).2.2.1 = some (m_fty c k)) ∧ (∀ a, a < q.2.2 → ∀ b, b < q.2.2 → a ≠ b → (q.2.1 a).2.1 ≠ (q.2.1 b).2.1) := by
  have h1 := List.all_eq_true.mp m_cl_ok q (List.mem_of_getElem? h)
  unfold m_clc at h1
  rw [Bool.and_eq_true] at h1
  obtain ⟨h1, h2⟩ := h1
  have h2' : ∀ a, a < q.2.2 → (∀ b, b < q.2.2 → a = b ∨ (q.2.1 a).2.1 ≠ (q.2.1 b).2.1) ∧ (parseFieldDescriptor (q.2.1 a).2.2.1).isSome = true := by
    intro a ha
    have h3 := List.all_eq_true.mp h2 a (List.mem_range.mpr ha)
    rw [Bool.and_eq_true] at h3
    refine ⟨fun b hb => ?_, h3.2⟩
    have h4 := List.all_eq_true.mp h3.1 b (List.mem_range.mpr hb)
    rw [Bool.or_eq_true, decide_eq_true_eq, decide_eq_true_eq] at h4
    exact h4
  refine ⟨fun w hw => ?_, fun k hk => ?_, fun a ha b hb hne => ?_⟩
  · have h3 := List.all_eq_true.mp h1 w hw
    rw [Bool.and_eq_true, decide_eq_true_eq] at h3
    exact List.mem_filter.mpr ⟨h3.1, h3.2⟩
  · obtain ⟨t, ht⟩ := Option.isSome_iff_exists.mp (h2' k hk).2
    unfold m_fty
    rw [m_cls_of h, ht]
    rfl
  · exact ((h2' a ha).1 b hb).resolve_left hne
theorem m_fl_use {o ix : Nat} {e : Nat × Nat × Nat} (h : m_fl.lookup (o, ix) = some e) : ∃ q : vw_C, m_cl[e.1]? = some q ∧ e.2.1 < q.2.2 ∧ (q.2.1 e.2.1).1 = q.1 ∧ Cond.fieldLink (m_cn o) ix q.1 (q.2.1 e.2.1).2.1 (q.2.1 e.2.1).2.2.1 ∈ m_tb := by
  have h1 := List.all_eq_true.mp m_fl_ok _ (m_lookup h)
  unfold m_flc at h1
  dsimp only at h1
  split at h1
  · next C T N hq =>
    rw [Bool.and_eq_true, Bool.and_eq_true, decide_eq_true_eq, decide_eq_true_eq] at h1
    exact ⟨(C, T, N), hq, h1.1.1, h1.1.2, m_has_mem h1.2⟩
  · cases h1
theorem m_ent1_o {dA : Nat → ClassId} {ad : Nat → Nat} {t : Nat} {vs : List Value} (ht : t < 20) : m_ent1 dA ad (t, vs) = .inr (t, vs.map (m_cv ad)) := by
  unfold m_ent1
  rw [if_neg (by show ¬ t = 20; omega), if_neg (by show ¬ t = 21; omega), if_neg (by show ¬ t = 22; omega), if_neg (by show ¬ t = 23; omega), if_neg (by show ¬ t = 24; omega)]
theorem m_ent1_20 {dA : Nat → ClassId} {ad : Nat → Nat} {vs : List Value} : m_ent1 dA ad (20, vs) = .inl (dA 20, vs.length, .inl (fun j => m_toI (vs.getD j .null))) := rfl
theorem m_ent1_21 {dA : Nat → ClassId} {ad : Nat → Nat} {vs : List Value} : m_ent1 dA ad (21, vs) = .inl (dA 21, vs.length, .inr (.inl (fun j => m_toL (vs.getD j .null)))) := rfl
theorem m_ent1_22 {dA : Nat → ClassId} {ad : Nat → Nat} {vs : List Value} : m_ent1 dA ad (22, vs) = .inl (dA 22, vs.length, .inl (fun j => m_toI (vs.getD j .null))) := rfl
theorem m_ent1_23 {dA : Nat → ClassId} {ad : Nat → Nat} {vs : List Value} : m_ent1 dA ad (23, vs) = .inl (dA 23, vs.length, .inr (.inr (.inr (.inr (fun j => (m_toR (vs.getD j .null)).map ad))))) := rfl
theorem m_ent1_24 {dA : Nat → ClassId} {ad : Nat → Nat} {vs : List Value} : m_ent1 dA ad (24, vs) = .inl (dA 24, vs.length, .inr (.inr (.inr (.inr (fun j => (m_toR (vs.getD j .null)).map ad))))) := rfl
theorem m_sl_set {h : m_H} {a t t' : Nat} {vs vs' : List Value} (e : h[a]? = some (t, vs)) (hl : vs'.length = vs.length) : m_sl (h.set a (t', vs')) = m_sl h := by
  unfold m_sl
  congr 1
  rw [List.map_set]
  apply List.ext_getElem?
  intro i
  rw [List.getElem?_set]
  split
  · next hi =>
    subst hi
    rw [List.length_map, List.getElem?_map, e]
    have hlt := (List.getElem?_eq_some_iff.mp e).1
    simp [hlt, hl]
  · rfl
theorem m_I_set {D : va_G} {dA : Nat → ClassId} {A : Nat → Prop} {s : State} {ad0 ad : Nat → Nat} {N0 S0 : Nat} {h : m_H} {H H1 : Heap} {locs locs1 : List Loc} {cells slots : Nat} {a t : Nat} {vs vs' : List Value}
    (I : m_I D dA A s ad0 ad N0 S0 h H locs cells slots) (e : h[a]? = some (t, vs)) (hl : vs'.length = vs.length)
    (hP : va_P D m_cl ((m_ws dA ad h).set a (ad a, m_ent1 dA ad (t, vs'))) H1) (hD : va_D A ((m_ws dA ad h).set a (ad a, m_ent1 dA ad (t, vs')))) (hS : va_S A s.heap H1 locs1) : m_I D dA A s ad0 ad N0 S0 (h.set a (t, vs')) H1 locs1 cells slots := by
  obtain ⟨-, -, -, h4, h5, h6, h7⟩ := I
  exact ⟨by rw [m_ws_set]; exact hP, by rw [m_ws_set]; exact hD, hS, by rw [List.length_set]; exact h4, by rw [m_sl_set e hl]; exact h5, fun a9 h9 => h6 a9 (by rw [List.length_set] at h9; exact h9), by rw [List.length_set]; exact h7⟩
theorem m_narrow {ty : FieldType} {ad : Nat → Nat} {v : Value} (h : narrow ty v = v) : narrow ty (m_cv ad v) = m_cv ad v := by
  cases v with
  | ref a => cases ty <;> rfl
  | _ => exact h
theorem m_fits {ty : FieldType} {ad : Nat → Nat} {v : Value} (h : fits ty v = true) : fits ty (m_cv ad v) = true := by
  cases v with
  | ref a => cases ty <;> first | exact h | cases h
  | _ => exact h
theorem m_getD {vs : List Value} {j : Nat} {v : Value} (h : vs[j]? = some v) : vs.getD j .null = v := by rw [List.getD_eq_getElem?_getD, h]; rfl
theorem m_getD_set {vs : List Value} {j i : Nat} {v : Value} (hi : i < vs.length) : (vs.set i v).getD j .null = if j = i then v else vs.getD j .null := by
  rw [List.getD_eq_getElem?_getD, List.getElem?_set]
  by_cases e : i = j
  · subst e; simp [hi]
  · rw [if_neg e, if_neg (fun q => e q.symm), List.getD_eq_getElem?_getD]
theorem m_sx_big : ∀ e ∈ m_sx, 1000 ≤ e.1 := by decide +kernel
theorem m_gl_use {o ix e : Nat} (h : m_gl.lookup (o, ix) = some e) : ∃ x ∈ m_sx, x.1 = e ∧ Cond.fieldLinkNest (m_cn o) ix "SnowHut" x.2.1 "[I" "SnowHut" ∈ m_nw := by
  have h1 := List.all_eq_true.mp m_gl_ok _ (m_lookup h)
  unfold m_glc at h1
  obtain ⟨x, hx, h2⟩ := List.any_eq_true.mp h1
  rw [Bool.and_eq_true, decide_eq_true_eq, decide_eq_true_eq] at h2
  exact ⟨x, hx, h2.1, h2.2⟩
section MSB
variable {p : Program} {l : Launch} {e : Env} {R : Room} {s : State} {m : MethodId} {args : Array Value} {below : List Frame} {meth : Method} {c : Code} {H : Heap} {locs : List Loc} {cells slots : Nat} {Q : State → Prop}
variable {k pc len nL N0 S0 : Nat} {X : List Int32} {D : va_G} {dA : Nat → ClassId} {A : Nat → Prop} {ad0 ad : Nat → Nat} {L : m_L} {st : List Value} {h : m_H} {ls : Array Slot} {q : m_S}
theorem ms_getfield {ix : Nat} (C : m_C k X p R s m args meth c D dA A ad0) (I : m_I D dA A s ad0 ad N0 S0 h H locs cells slots) (hl : m_lo ls (m_n k) L ad) (hd : decode (m_b k) pc = .ok (.getfield ix, m_ln (.getfield ix) len)) (hs : m_sB X k (.getfield ix) pc L st h = some q) (kk : m_KK p l e R s m args below meth c Q D dA A ad0 N0 S0 (m_n k) q) : W p l e R s m args below meth c H locs cells slots Q (F0 m pc ls (st.map (m_cv ad))) := by
  have hx := C.1
  have hb := C.2.1
  obtain ⟨a, r, rfl, e1⟩ := m_a_s hs
  split at e1
  · next e9 he9 =>
    split at e1
    · next cc hc =>
      obtain ⟨h1, e1⟩ := m_c_s e1
      split at e1
      · next v hv =>
        cases e1
        obtain ⟨cq, hcq, hk, hC, hw⟩ := m_fl_use he9
        obtain ⟨tg, vs⟩ := cc
        obtain rfl : tg = e9.1 := h1
        have hin := m_cl_use hcq
        have hws := m_ws_at (dA := dA) (ad := ad) hc
        rw [m_ent1_o (m_cl_lt hcq)] at hws
        refine va_get (D := D) (cl := m_cl) (tys := m_tys dA) (ws := m_ws dA ad h) (ci := e9.1) (v := m_cv ad v) (C := cq.1) (T := cq.2.1) (N := cq.2.2) (ref := cq.1) (own := m_cn (m_o k)) hx hb C.2.2.2.2.1 hin.1 C.2.2.2.1 C.2.2.2.2.2.2.1 I.1 a hws hcq e9.2.1 hk (C.2.2.2.2.1 _ hw) (fun x h9 => by rw [hC] at h9; exact h9) ?_ hd ?_
        · show (vs.map (m_cv ad))[e9.2.1]? = _
          rw [List.getElem?_map, hv]
          rfl
        · exact kk ad H locs cells slots ls I hl
      · cases e1
    · cases e1
  · cases e1
theorem ms_putfield {ix : Nat} (C : m_C k X p R s m args meth c D dA A ad0) (I : m_I D dA A s ad0 ad N0 S0 h H locs cells slots) (hl : m_lo ls (m_n k) L ad) (hd : decode (m_b k) pc = .ok (.putfield ix, m_ln (.putfield ix) len)) (hs : m_sB X k (.putfield ix) pc L st h = some q) (kk : m_KK p l e R s m args below meth c Q D dA A ad0 N0 S0 (m_n k) q) : W p l e R s m args below meth c H locs cells slots Q (F0 m pc ls (st.map (m_cv ad))) := by
  have hx := C.1
  have hb := C.2.1
  obtain ⟨a, v, r, rfl, e1⟩ := m_va_s hs
  split at e1
  · next e9 he9 =>
    split at e1
    · next cc hc =>
      obtain ⟨⟨h1, h2, h3, h4, h5⟩, e1⟩ := m_c_s e1
      cases e1
      obtain ⟨cq, hcq, hk, hC, hw⟩ := m_fl_use he9
      obtain ⟨tg, vs⟩ := cc
      obtain rfl : tg = e9.1 := h1
      have hin := m_cl_use hcq
      have hws := m_ws_at (dA := dA) (ad := ad) hc
      rw [m_ent1_o (m_cl_lt hcq)] at hws
      rw [m_cls_of hcq] at h5
      have fin : ∀ (H1 : Heap) (locs1 : List Loc), va_P D m_cl ((m_ws dA ad h).set a (ad a, .inr (e9.1, (vs.map (m_cv ad)).set e9.2.1 (m_cv ad v)))) H1 → va_D A ((m_ws dA ad h).set a (ad a, .inr (e9.1, (vs.map (m_cv ad)).set e9.2.1 (m_cv ad v)))) → va_S A s.heap H1 locs1 → W p l e R s m args below meth c H1 locs1 cells slots Q (F0 m (pc + 3) ls (r.map (m_cv ad))) := by
        intro H1 locs1 hP hD hS
        have ee : (.inr (e9.1, (vs.map (m_cv ad)).set e9.2.1 (m_cv ad v)) : va_E) = m_ent1 dA ad (e9.1, vs.set e9.2.1 v) := by rw [m_ent1_o (m_cl_lt hcq), List.map_set]
        rw [ee] at hP hD
        exact kk ad H1 locs1 cells slots ls (m_I_set I hc (by rw [List.length_set]) hP hD hS) hl
      rcases h5 with h5 | ⟨h5, h6⟩
      · exact va_put (D := D) (cl := m_cl) (tys := m_tys dA) (ws := m_ws dA ad h) (ci := e9.1) (v := m_cv ad v) (C := cq.1) (T := cq.2.1) (N := cq.2.2) (ref := cq.1) (own := m_cn (m_o k)) (ty := m_fty e9.1 e9.2.1) hx hb C.2.2.2.2.1 hin.1 (m_fty e9.1) hin.2.1 hin.2.2 C.2.2.2.1 C.2.2.2.2.2.2.1 I.1 I.2.1 I.2.2.1 a hws hcq e9.2.1 hk (C.2.2.2.2.1 _ hw) (fun x h9 => by rw [hC] at h9; exact h9) h5 (hin.2.1 _ hk) (m_narrow h3) (m_fits h4) (by rw [List.length_map]; exact h2) hd fin
      · by_cases hf : (cq.2.1 e9.2.1).2.2.2 = true
        · exact va_putF (D := D) (cl := m_cl) (tys := m_tys dA) (ws := m_ws dA ad h) (ci := e9.1) (v := m_cv ad v) (C := cq.1) (T := cq.2.1) (N := cq.2.2) (ref := cq.1) (own := m_cn (m_o k)) (ty := m_fty e9.1 e9.2.1) hx hb C.2.2.2.2.1 hin.1 (m_fty e9.1) hin.2.1 hin.2.2 C.2.2.2.1 C.2.2.2.2.2.2.1 I.1 I.2.1 I.2.2.1 a hws hcq e9.2.1 hk (C.2.2.2.2.1 _ hw) (fun x h9 => by rw [hC] at h9; exact h9) hf (by rw [C.2.2.2.2.2.2.2.2.2.1]; exact h5) (hC.trans h6) (hin.2.1 _ hk) (m_narrow h3) (m_fits h4) (by rw [List.length_map]; exact h2) hd fin
        · exact va_put (D := D) (cl := m_cl) (tys := m_tys dA) (ws := m_ws dA ad h) (ci := e9.1) (v := m_cv ad v) (C := cq.1) (T := cq.2.1) (N := cq.2.2) (ref := cq.1) (own := m_cn (m_o k)) (ty := m_fty e9.1 e9.2.1) hx hb C.2.2.2.2.1 hin.1 (m_fty e9.1) hin.2.1 hin.2.2 C.2.2.2.1 C.2.2.2.2.2.2.1 I.1 I.2.1 I.2.2.1 a hws hcq e9.2.1 hk (C.2.2.2.2.1 _ hw) (fun x h9 => by rw [hC] at h9; exact h9) (by simpa using hf) (hin.2.1 _ hk) (m_narrow h3) (m_fits h4) (by rw [List.length_map]; exact h2) hd fin
    · cases e1
  · cases e1
theorem ms_getstatic {ix : Nat} (C : m_C k X p R s m args meth c D dA A ad0) (I : m_I D dA A s ad0 ad N0 S0 h H locs cells slots) (hl : m_lo ls (m_n k) L ad) (hd : decode (m_b k) pc = .ok (.getstatic ix, m_ln (.getstatic ix) len)) (hs : m_sB X k (.getstatic ix) pc L st h = some q) (kk : m_KK p l e R s m args below meth c Q D dA A ad0 N0 S0 (m_n k) q) : W p l e R s m args below meth c H locs cells slots Q (F0 m pc ls (st.map (m_cv ad))) := by
  have hx := C.1
  have hb := C.2.1
  simp only [m_sB] at hs
  split at hs
  · next e9 he9 =>
    cases hs
    obtain ⟨x, hxm, rfl, hw⟩ := m_gl_use he9
    obtain ⟨hZ, -⟩ := C.2.2.2.2.2.2.2.2.1.1 x hxm
    have had : ad x.1 = ad0 x.1 := m_I_big I (m_sx_big x hxm)
    refine va_getsN (C := "SnowHut") (n := x.2.1) (d := "[I") (v := .ref (ad0 x.1)) (host := "SnowHut") (ref := "SnowHut") (own := m_cn (m_o k)) hx hb hZ I.2.2.1 C.2.2.2.1 (va_Nw.use rfl (C.2.2.2.2.2.1.1 _ hw)) (fun _ h9 => h9) hd ?_
    have := kk ad H locs cells slots ls I hl
    rw [← had]
    exact this
  · cases hs
theorem ms_iaload (C : m_C k X p R s m args meth c D dA A ad0) (I : m_I D dA A s ad0 ad N0 S0 h H locs cells slots) (hl : m_lo ls (m_n k) L ad) (hd : decode (m_b k) pc = .ok (.iaload, m_ln (.iaload) len)) (hs : m_sB X k (.iaload) pc L st h = some q) (kk : m_KK p l e R s m args below meth c Q D dA A ad0 N0 S0 (m_n k) q) : W p l e R s m args below meth c H locs cells slots Q (F0 m pc ls (st.map (m_cv ad))) := by
  have hx := C.1
  have hb := C.2.1
  obtain ⟨a, i, r, rfl, e1⟩ := m_ai_s hs
  split at e1
  · next hbig =>
    have had : ad a = ad0 a := m_I_big I hbig
    split at e1
    · next xl hxl =>
      obtain ⟨h1, e1⟩ := m_c_s e1
      cases e1
      have kk' := kk ad H locs cells slots ls I hl
      show W p l e R s m args below meth c H locs cells slots Q (F0 m pc ls (.int i :: .ref (ad a) :: r.map (m_cv ad)))
      rw [had]
      unfold m_ex at hxl
      split at hxl
      · next ha =>
        subst ha
        cases hxl
        obtain ⟨-, hX, hbl, hbA⟩ := C.2.2.2.2.2.2.2.2.1
        exact va_sld hx hb hX hbl hbA I.2.2.1 h1 hd kk'
      · next ha =>
        obtain ⟨x, hx1, hx2⟩ := Option.map_eq_some_iff.mp hxl
        subst hx2
        have hm := List.mem_of_find?_eq_some hx1
        have he : x.1 = a := by simpa using List.find?_some hx1
        subst he
        obtain ⟨-, hT⟩ := C.2.2.2.2.2.2.2.2.1.1 x hm
        exact va_ti hx hb hT I.2.2.1 h1 rfl hd kk'
    · cases e1
  · obtain ⟨vs, v, hc, hin, hv, e1⟩ := m_rd_s e1
    obtain ⟨x, rfl, e1⟩ := m_vi_s e1
    cases e1
    have hws := m_ws_at (dA := dA) (ad := ad) hc
    rw [m_ent1_20] at hws
    refine va_iald hx hb C.2.2.2.2.2.2.1 I.1 a 0 hws rfl hin hd ?_
    rw [m_getD hv]
    exact kk ad H locs cells slots ls I hl
theorem ms_laload (C : m_C k X p R s m args meth c D dA A ad0) (I : m_I D dA A s ad0 ad N0 S0 h H locs cells slots) (hl : m_lo ls (m_n k) L ad) (hd : decode (m_b k) pc = .ok (.laload, m_ln (.laload) len)) (hs : m_sB X k (.laload) pc L st h = some q) (kk : m_KK p l e R s m args below meth c Q D dA A ad0 N0 S0 (m_n k) q) : W p l e R s m args below meth c H locs cells slots Q (F0 m pc ls (st.map (m_cv ad))) := by
  have hx := C.1
  have hb := C.2.1
  obtain ⟨a, i, r, rfl, e1⟩ := m_ai_s hs
  obtain ⟨vs, v, hc, hin, hv, e1⟩ := m_rd_s e1
  obtain ⟨x, rfl, e1⟩ := m_vj_s e1
  cases e1
  have hws := m_ws_at (dA := dA) (ad := ad) hc
  rw [m_ent1_21] at hws
  refine va_lald hx hb C.2.2.2.2.2.2.1 I.1 a 1 hws rfl hin hd ?_
  rw [m_getD hv]
  exact kk ad H locs cells slots ls I hl
theorem ms_aaload (C : m_C k X p R s m args meth c D dA A ad0) (I : m_I D dA A s ad0 ad N0 S0 h H locs cells slots) (hl : m_lo ls (m_n k) L ad) (hd : decode (m_b k) pc = .ok (.aaload, m_ln (.aaload) len)) (hs : m_sB X k (.aaload) pc L st h = some q) (kk : m_KK p l e R s m args below meth c Q D dA A ad0 N0 S0 (m_n k) q) : W p l e R s m args below meth c H locs cells slots Q (F0 m pc ls (st.map (m_cv ad))) := by
  have hx := C.1
  have hb := C.2.1
  obtain ⟨a, i, r, rfl, e1⟩ := m_ai_s hs
  split at e1
  · obtain ⟨vs, v, hc, hin, hv, e1⟩ := m_rd_s e1
    obtain ⟨x, rfl, e1⟩ := m_vr_s e1
    cases e1
    have hws := m_ws_at (dA := dA) (ad := ad) hc
    rw [m_ent1_23] at hws
    refine va_aldq (C := "SnowHut$Guest") hx hb C.2.2.2.2.2.2.1 I.1 a 3 hws rfl hin hd ?_
    rw [m_getD hv]
    exact kk ad H locs cells slots ls I hl
  · obtain ⟨vs, v, hc, hin, hv, e1⟩ := m_rd_s e1
    obtain ⟨x, rfl, e1⟩ := m_vr_s e1
    cases e1
    have hws := m_ws_at (dA := dA) (ad := ad) hc
    rw [m_ent1_24] at hws
    have hlt : i.toNatClampNeg < vs.length := Nat.not_le.mp fun q => hin (Or.inr q)
    refine W.aald (v := va_rf (((m_toR (vs.getD i.toNatClampNeg .null)).map ad))) (ty := .array .int) hx hb (I.1 a _ hws) ((C.2.2.2.2.2.2.1.2 4 (dA 24, .array .int) rfl).1 vs.length (fun j => va_rf ((m_toR (vs.getD j .null)).map ad))) rfl (fun q => by cases q) (by show ¬ (i < 0 ∨ (arrV _ _ _).slots.size ≤ _); rw [arrV_size]; exact hin) (by show (arrV _ _ _).slots[_]? = _; rw [arrV_read _ _ hlt]) rfl rfl hd ?_
    rw [m_getD hv]
    exact kk ad H locs cells slots ls I hl
theorem ms_iastore (C : m_C k X p R s m args meth c D dA A ad0) (I : m_I D dA A s ad0 ad N0 S0 h H locs cells slots) (hl : m_lo ls (m_n k) L ad) (hd : decode (m_b k) pc = .ok (.iastore, m_ln (.iastore) len)) (hs : m_sB X k (.iastore) pc L st h = some q) (kk : m_KK p l e R s m args below meth c Q D dA A ad0 N0 S0 (m_n k) q) : W p l e R s m args below meth c H locs cells slots Q (F0 m pc ls (st.map (m_cv ad))) := by
  have hx := C.1
  have hb := C.2.1
  obtain ⟨a, i, x, r, rfl, e1⟩ := m_aii_s hs
  obtain ⟨vs, hc, hin, e1⟩ := m_wr_s e1
  cases e1
  have hws := m_ws_at (dA := dA) (ad := ad) hc
  rw [m_ent1_20] at hws
  have hlt : i.toNatClampNeg < vs.length := Nat.not_le.mp fun q => hin (Or.inr q)
  refine va_iast hx hb C.2.2.2.2.2.2.1 I.1 I.2.1 I.2.2.1 a 0 hws rfl hin hd fun H1 locs1 hP hD hS => ?_
  have ee : (.inl (dA 20, vs.length, .inl (upd (fun j => m_toI (vs.getD j .null)) i.toNatClampNeg x)) : va_E) = m_ent1 dA ad (20, vs.set i.toNatClampNeg (.int x)) := by
    rw [m_ent1_20, List.length_set]
    congr 4
    funext j
    rw [m_getD_set hlt]
    unfold upd
    split <;> rfl
  rw [ee] at hP hD
  exact kk ad H1 locs1 cells slots ls (m_I_set I hc (by rw [List.length_set]) hP hD hS) hl
theorem ms_lastore (C : m_C k X p R s m args meth c D dA A ad0) (I : m_I D dA A s ad0 ad N0 S0 h H locs cells slots) (hl : m_lo ls (m_n k) L ad) (hd : decode (m_b k) pc = .ok (.lastore, m_ln (.lastore) len)) (hs : m_sB X k (.lastore) pc L st h = some q) (kk : m_KK p l e R s m args below meth c Q D dA A ad0 N0 S0 (m_n k) q) : W p l e R s m args below meth c H locs cells slots Q (F0 m pc ls (st.map (m_cv ad))) := by
  have hx := C.1
  have hb := C.2.1
  obtain ⟨a, i, x, r, rfl, e1⟩ := m_aij_s hs
  obtain ⟨vs, hc, hin, e1⟩ := m_wr_s e1
  cases e1
  have hws := m_ws_at (dA := dA) (ad := ad) hc
  rw [m_ent1_21] at hws
  have hlt : i.toNatClampNeg < vs.length := Nat.not_le.mp fun q => hin (Or.inr q)
  refine va_last hx hb C.2.2.2.2.2.2.1 I.1 I.2.1 I.2.2.1 a 1 hws rfl hin hd fun H1 locs1 hP hD hS => ?_
  have ee : (.inl (dA 21, vs.length, .inr (.inl (vp_updL (fun j => m_toL (vs.getD j .null)) i.toNatClampNeg x))) : va_E) = m_ent1 dA ad (21, vs.set i.toNatClampNeg (.long x)) := by
    rw [m_ent1_21, List.length_set]
    congr 5
    funext j
    rw [m_getD_set hlt]
    unfold vp_updL
    split <;> rfl
  rw [ee] at hP hD
  exact kk ad H1 locs1 cells slots ls (m_I_set I hc (by rw [List.length_set]) hP hD hS) hl
theorem m_cl_0 : ∃ r : vw_C, m_cl[0]? = some r ∧ r.1 = "SnowHut$Guest" := ⟨_, rfl, rfl⟩
theorem ms_aastore (C : m_C k X p R s m args meth c D dA A ad0) (I : m_I D dA A s ad0 ad N0 S0 h H locs cells slots) (hl : m_lo ls (m_n k) L ad) (hd : decode (m_b k) pc = .ok (.aastore, m_ln (.aastore) len)) (hs : m_sB X k (.aastore) pc L st h = some q) (kk : m_KK p l e R s m args below meth c Q D dA A ad0 N0 S0 (m_n k) q) : W p l e R s m args below meth c H locs cells slots Q (F0 m pc ls (st.map (m_cv ad))) := by
  have hx := C.1
  have hb := C.2.1
  obtain ⟨a, i, x, r, rfl, e1⟩ := m_aia_s hs
  obtain ⟨hx0, e1⟩ := m_c_s e1
  obtain ⟨vs, hc, hin, e1⟩ := m_wr_s e1
  cases e1
  have hws := m_ws_at (dA := dA) (ad := ad) hc
  rw [m_ent1_23] at hws
  have hlt : i.toNatClampNeg < vs.length := Nat.not_le.mp fun q => hin (Or.inr q)
  obtain ⟨cx, hcx, hcx0⟩ := Option.map_eq_some_iff.mp hx0
  obtain ⟨tx, vx⟩ := cx
  obtain rfl : tx = 0 := hcx0
  have hwx := m_ws_at (dA := dA) (ad := ad) hcx
  rw [m_ent1_o (by decide)] at hwx
  obtain ⟨rq, hrq, hrn⟩ := m_cl_0
  refine va_astq hx hb C.2.2.2.2.2.2.1 I.1 I.2.1 I.2.2.1 a 3 x 0 hws (by rw [hrn]; rfl) hwx hrq hin hd fun H1 locs1 hP hD hS => ?_
  have ee : (.inl (dA 23, vs.length, .inr (.inr (.inr (.inr (va_up (fun j => (m_toR (vs.getD j .null)).map ad) i.toNatClampNeg (some (ad x))))))) : va_E) = m_ent1 dA ad (23, vs.set i.toNatClampNeg (.ref x)) := by
    rw [m_ent1_23, List.length_set]
    congr 8
    funext j
    rw [m_getD_set hlt]
    unfold va_up
    split <;> rfl
  rw [ee] at hP hD
  exact kk ad H1 locs1 cells slots ls (m_I_set I hc (by rw [List.length_set]) hP hD hS) hl
theorem ms_arraylength (C : m_C k X p R s m args meth c D dA A ad0) (I : m_I D dA A s ad0 ad N0 S0 h H locs cells slots) (hl : m_lo ls (m_n k) L ad) (hd : decode (m_b k) pc = .ok (.arraylength, m_ln (.arraylength) len)) (hs : m_sB X k (.arraylength) pc L st h = some q) (kk : m_KK p l e R s m args below meth c Q D dA A ad0 N0 S0 (m_n k) q) : W p l e R s m args below meth c H locs cells slots Q (F0 m pc ls (st.map (m_cv ad))) := by
  have hx := C.1
  have hb := C.2.1
  obtain ⟨a, r, rfl, e1⟩ := m_a_s hs
  split at e1
  · next ha =>
    subst ha
    cases e1
    have kk' := kk ad H locs cells slots ls I hl
    show W p l e R s m args below meth c H locs cells slots Q (F0 m pc ls (.ref (ad 1000) :: r.map (m_cv ad)))
    rw [m_I_big I (Nat.le_refl 1000)]
    obtain ⟨-, hX, hbl, hbA⟩ := C.2.2.2.2.2.2.2.2.1
    exact va_slen hx hb hX hbl hbA I.2.2.1 hd kk'
  · split at e1
    · next cc hc =>
      obtain ⟨tg, vs⟩ := cc
      obtain ⟨⟨h1, h2⟩, e1⟩ := m_c_s e1
      cases e1
      have hws := m_ws_at (dA := dA) (ad := ad) hc
      have kk' := kk ad H locs cells slots ls I hl
      rcases (show tg = 20 ∨ tg = 21 ∨ tg = 22 ∨ tg = 23 ∨ tg = 24 by dsimp only at h1 h2; omega) with rfl | rfl | rfl | rfl | rfl
      · rw [m_ent1_20] at hws
        exact va_alen hx hb C.2.2.2.2.2.2.1 I.1 a 0 hws rfl rfl hd kk'
      · rw [m_ent1_21] at hws
        exact va_alen hx hb C.2.2.2.2.2.2.1 I.1 a 1 hws rfl rfl hd kk'
      · rw [m_ent1_22] at hws
        exact va_alen hx hb C.2.2.2.2.2.2.1 I.1 a 2 hws rfl rfl hd kk'
      · rw [m_ent1_23] at hws
        exact va_alen hx hb C.2.2.2.2.2.2.1 I.1 a 3 hws rfl rfl hd kk'
      · rw [m_ent1_24] at hws
        exact va_alen hx hb C.2.2.2.2.2.2.1 I.1 a 4 hws rfl rfl hd kk'
    · cases e1
theorem m_sB_ok {i : Instr} (C : m_C k X p R s m args meth c D dA A ad0) (I : m_I D dA A s ad0 ad N0 S0 h H locs cells slots) (hl : m_lo ls (m_n k) L ad) (hd : decode (m_b k) pc = .ok (i, m_ln i len)) (hs : m_sB X k i pc L st h = some q) (kk : m_KK p l e R s m args below meth c Q D dA A ad0 N0 S0 (m_n k) q) : W p l e R s m args below meth c H locs cells slots Q (F0 m pc ls (st.map (m_cv ad))) := by
  cases i with
  | getfield _ => exact ms_getfield C I hl hd hs kk
  | putfield _ => exact ms_putfield C I hl hd hs kk
  | getstatic _ => exact ms_getstatic C I hl hd hs kk
  | iaload => exact ms_iaload C I hl hd hs kk
  | laload => exact ms_laload C I hl hd hs kk
  | aaload => exact ms_aaload C I hl hd hs kk
  | iastore => exact ms_iastore C I hl hd hs kk
  | lastore => exact ms_lastore C I hl hd hs kk
  | aastore => exact ms_aastore C I hl hd hs kk
  | arraylength => exact ms_arraylength C I hl hd hs kk
  | _ => cases hs
end MSB
