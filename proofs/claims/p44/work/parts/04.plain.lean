/-! the rows of the instructions that leave the heap alone -/
def m_KK (p : Program) (l : Launch) (e : Env) (R : Room) (s : State) (m : MethodId) (args : Array Value) (below : List Frame) (meth : Method) (c : Code) (Q : State → Prop) (D : va_G) (dA : Nat → ClassId) (A : Nat → Prop) (ad0 : Nat → Nat) (N0 S0 nL : Nat) (q : m_S) : Prop :=
  ∀ (ad : Nat → Nat) (H : Heap) (locs : List Loc) (cells slots : Nat) (ls : Array Slot), m_I D dA A s ad0 ad N0 S0 q.2.2.2 H locs cells slots → m_lo ls nL q.2.1 ad →
    W p l e R s m args below meth c H locs cells slots Q (F0 m q.1 ls (q.2.2.1.map (m_cv ad)))
section MSA
variable {p : Program} {l : Launch} {e : Env} {R : Room} {s : State} {m : MethodId} {args : Array Value} {below : List Frame} {meth : Method} {c : Code} {H : Heap} {locs : List Loc} {cells slots : Nat} {Q : State → Prop}
variable {k pc len nL N0 S0 : Nat} {X : List Int32} {D : va_G} {dA : Nat → ClassId} {A : Nat → Prop} {ad0 ad : Nat → Nat} {L : m_L} {st : List Value} {h : m_H} {ls : Array Slot} {q : m_S}
theorem m_go_ok {off : Int} (hs : m_go pc off L st h = some q) : ∃ tgt : Nat, (pc : Int) + off = (tgt : Int) ∧ q = (tgt, L, st, h) := by
  unfold m_go at hs
  obtain ⟨h1, h2⟩ := m_c_s hs
  cases h2
  exact ⟨((pc : Int) + off).toNat, by omega, rfl⟩

theorem ms_iconst {n : Int} (C : m_C k X p R s m args meth c D dA A ad0) (I : m_I D dA A s ad0 ad N0 S0 h H locs cells slots) (hl : m_lo ls (m_n k) L ad) (hd : decode (m_b k) pc = .ok (.iconst n, m_ln (.iconst n) len)) (hs : m_sA k (.iconst n) pc L st h = some q) (kk : m_KK p l e R s m args below meth c Q D dA A ad0 N0 S0 (m_n k) q) : W p l e R s m args below meth c H locs cells slots Q (F0 m pc ls (st.map (m_cv ad))) := by
  have hx := C.1
  have hb := C.2.1
  cases hs
  refine lv_iconst (v := Int32.ofInt n) hx hb hd rfl ?_
  exact kk ad H locs cells slots ls I hl

theorem ms_bipush {n : Int} (C : m_C k X p R s m args meth c D dA A ad0) (I : m_I D dA A s ad0 ad N0 S0 h H locs cells slots) (hl : m_lo ls (m_n k) L ad) (hd : decode (m_b k) pc = .ok (.bipush n, m_ln (.bipush n) len)) (hs : m_sA k (.bipush n) pc L st h = some q) (kk : m_KK p l e R s m args below meth c Q D dA A ad0 N0 S0 (m_n k) q) : W p l e R s m args below meth c H locs cells slots Q (F0 m pc ls (st.map (m_cv ad))) := by
  have hx := C.1
  have hb := C.2.1
  cases hs
  refine lv_bipush (v := (Int8.ofInt n).toInt32) hx hb hd rfl ?_
  exact kk ad H locs cells slots ls I hl

theorem ms_sipush {n : Int} (C : m_C k X p R s m args meth c D dA A ad0) (I : m_I D dA A s ad0 ad N0 S0 h H locs cells slots) (hl : m_lo ls (m_n k) L ad) (hd : decode (m_b k) pc = .ok (.sipush n, m_ln (.sipush n) len)) (hs : m_sA k (.sipush n) pc L st h = some q) (kk : m_KK p l e R s m args below meth c Q D dA A ad0 N0 S0 (m_n k) q) : W p l e R s m args below meth c H locs cells slots Q (F0 m pc ls (st.map (m_cv ad))) := by
  have hx := C.1
  have hb := C.2.1
  cases hs
  refine lv_sipush (v := (Int16.ofInt n).toInt32) hx hb hd rfl ?_
  exact kk ad H locs cells slots ls I hl

theorem ms_lconst {n : Fin 2} (C : m_C k X p R s m args meth c D dA A ad0) (I : m_I D dA A s ad0 ad N0 S0 h H locs cells slots) (hl : m_lo ls (m_n k) L ad) (hd : decode (m_b k) pc = .ok (.lconst n, m_ln (.lconst n) len)) (hs : m_sA k (.lconst n) pc L st h = some q) (kk : m_KK p l e R s m args below meth c Q D dA A ad0 N0 S0 (m_n k) q) : W p l e R s m args below meth c H locs cells slots Q (F0 m pc ls (st.map (m_cv ad))) := by
  have hx := C.1
  have hb := C.2.1
  cases hs
  refine lv_lconst (v := Int64.ofNat (n : Nat)) hx hb hd rfl ?_
  exact kk ad H locs cells slots ls I hl

theorem ms_ldc_w {ix : Nat} (C : m_C k X p R s m args meth c D dA A ad0) (I : m_I D dA A s ad0 ad N0 S0 h H locs cells slots) (hl : m_lo ls (m_n k) L ad) (hd : decode (m_b k) pc = .ok (.ldc_w ix, m_ln (.ldc_w ix) len)) (hs : m_sA k (.ldc_w ix) pc L st h = some q) (kk : m_KK p l e R s m args below meth c Q D dA A ad0 N0 S0 (m_n k) q) : W p l e R s m args below meth c H locs cells slots Q (F0 m pc ls (st.map (m_cv ad))) := by
  have hx := C.1
  have hb := C.2.1
  simp only [m_sA] at hs
  split at hs
  · next e1 he =>
    cases hs
    refine lv_ldcw (own := m_cn (m_o k)) (v := e1.1) hx hb C.2.2.2.1 (C.2.2.2.2.1 _ (m_k32_use he)) hd ?_
    exact kk ad H locs cells slots ls I hl
  · cases hs

theorem ms_ldc {ix : Nat} (C : m_C k X p R s m args meth c D dA A ad0) (I : m_I D dA A s ad0 ad N0 S0 h H locs cells slots) (hl : m_lo ls (m_n k) L ad) (hd : decode (m_b k) pc = .ok (.ldc ix, m_ln (.ldc ix) len)) (hs : m_sA k (.ldc ix) pc L st h = some q) (kk : m_KK p l e R s m args below meth c Q D dA A ad0 N0 S0 (m_n k) q) : W p l e R s m args below meth c H locs cells slots Q (F0 m pc ls (st.map (m_cv ad))) := by
  have hx := C.1
  have hb := C.2.1
  simp only [m_sA] at hs
  split at hs
  · next e1 he =>
    cases hs
    refine lv_ldc (own := m_cn (m_o k)) (v := e1.1) hx hb C.2.2.2.1 (C.2.2.2.2.1 _ (m_k32_use he)) hd ?_
    exact kk ad H locs cells slots ls I hl
  · cases hs

theorem ms_ldc2_w {ix : Nat} (C : m_C k X p R s m args meth c D dA A ad0) (I : m_I D dA A s ad0 ad N0 S0 h H locs cells slots) (hl : m_lo ls (m_n k) L ad) (hd : decode (m_b k) pc = .ok (.ldc2_w ix, m_ln (.ldc2_w ix) len)) (hs : m_sA k (.ldc2_w ix) pc L st h = some q) (kk : m_KK p l e R s m args below meth c Q D dA A ad0 N0 S0 (m_n k) q) : W p l e R s m args below meth c H locs cells slots Q (F0 m pc ls (st.map (m_cv ad))) := by
  have hx := C.1
  have hb := C.2.1
  simp only [m_sA] at hs
  split at hs
  · next e1 he =>
    cases hs
    refine lv_ldc2 (own := m_cn (m_o k)) (v := e1.1) hx hb C.2.2.2.1 (C.2.2.2.2.1 _ (m_k64_use he)) hd ?_
    exact kk ad H locs cells slots ls I hl
  · cases hs

theorem ms_iload_n {n : Fin 4} (C : m_C k X p R s m args meth c D dA A ad0) (I : m_I D dA A s ad0 ad N0 S0 h H locs cells slots) (hl : m_lo ls (m_n k) L ad) (hd : decode (m_b k) pc = .ok (.iload_n n, m_ln (.iload_n n) len)) (hs : m_sA k (.iload_n n) pc L st h = some q) (kk : m_KK p l e R s m args below meth c Q D dA A ad0 N0 S0 (m_n k) q) : W p l e R s m args below meth c H locs cells slots Q (F0 m pc ls (st.map (m_cv ad))) := by
  have hx := C.1
  have hb := C.2.1
  obtain ⟨x, e1, e2⟩ := m_ldi_s hs
  cases e2
  refine lv_iload_n hx hb hd rfl (hl.2.2.2 _ _ e1) ?_
  exact kk ad H locs cells slots ls I hl

theorem ms_lload_n {n : Fin 4} (C : m_C k X p R s m args meth c D dA A ad0) (I : m_I D dA A s ad0 ad N0 S0 h H locs cells slots) (hl : m_lo ls (m_n k) L ad) (hd : decode (m_b k) pc = .ok (.lload_n n, m_ln (.lload_n n) len)) (hs : m_sA k (.lload_n n) pc L st h = some q) (kk : m_KK p l e R s m args below meth c Q D dA A ad0 N0 S0 (m_n k) q) : W p l e R s m args below meth c H locs cells slots Q (F0 m pc ls (st.map (m_cv ad))) := by
  have hx := C.1
  have hb := C.2.1
  obtain ⟨x, e1, e2⟩ := m_ldj_s hs
  cases e2
  refine lv_lload_n hx hb hd rfl (hl.2.2.2 _ _ e1) ?_
  exact kk ad H locs cells slots ls I hl

theorem ms_aload_n {n : Fin 4} (C : m_C k X p R s m args meth c D dA A ad0) (I : m_I D dA A s ad0 ad N0 S0 h H locs cells slots) (hl : m_lo ls (m_n k) L ad) (hd : decode (m_b k) pc = .ok (.aload_n n, m_ln (.aload_n n) len)) (hs : m_sA k (.aload_n n) pc L st h = some q) (kk : m_KK p l e R s m args below meth c Q D dA A ad0 N0 S0 (m_n k) q) : W p l e R s m args below meth c H locs cells slots Q (F0 m pc ls (st.map (m_cv ad))) := by
  have hx := C.1
  have hb := C.2.1
  obtain ⟨x, e1, e2⟩ := m_lda_s hs
  cases e2
  refine lv_aload_n hx hb hd rfl (hl.2.2.2 _ _ e1) ?_
  exact kk ad H locs cells slots ls I hl

theorem ms_iload {n : Nat} (C : m_C k X p R s m args meth c D dA A ad0) (I : m_I D dA A s ad0 ad N0 S0 h H locs cells slots) (hl : m_lo ls (m_n k) L ad) (hd : decode (m_b k) pc = .ok (.iload n, m_ln (.iload n) len)) (hs : m_sA k (.iload n) pc L st h = some q) (kk : m_KK p l e R s m args below meth c Q D dA A ad0 N0 S0 (m_n k) q) : W p l e R s m args below meth c H locs cells slots Q (F0 m pc ls (st.map (m_cv ad))) := by
  have hx := C.1
  have hb := C.2.1
  obtain ⟨x, e1, e2⟩ := m_ldi_s hs
  cases e2
  refine lv_iload hx hb hd (hl.2.2.2 _ _ e1) ?_
  exact kk ad H locs cells slots ls I hl

theorem ms_lload {n : Nat} (C : m_C k X p R s m args meth c D dA A ad0) (I : m_I D dA A s ad0 ad N0 S0 h H locs cells slots) (hl : m_lo ls (m_n k) L ad) (hd : decode (m_b k) pc = .ok (.lload n, m_ln (.lload n) len)) (hs : m_sA k (.lload n) pc L st h = some q) (kk : m_KK p l e R s m args below meth c Q D dA A ad0 N0 S0 (m_n k) q) : W p l e R s m args below meth c H locs cells slots Q (F0 m pc ls (st.map (m_cv ad))) := by
  have hx := C.1
  have hb := C.2.1
  obtain ⟨x, e1, e2⟩ := m_ldj_s hs
  cases e2
  refine lv_lload hx hb hd (hl.2.2.2 _ _ e1) ?_
  exact kk ad H locs cells slots ls I hl

theorem ms_aload {n : Nat} (C : m_C k X p R s m args meth c D dA A ad0) (I : m_I D dA A s ad0 ad N0 S0 h H locs cells slots) (hl : m_lo ls (m_n k) L ad) (hd : decode (m_b k) pc = .ok (.aload n, m_ln (.aload n) len)) (hs : m_sA k (.aload n) pc L st h = some q) (kk : m_KK p l e R s m args below meth c Q D dA A ad0 N0 S0 (m_n k) q) : W p l e R s m args below meth c H locs cells slots Q (F0 m pc ls (st.map (m_cv ad))) := by
  have hx := C.1
  have hb := C.2.1
  obtain ⟨x, e1, e2⟩ := m_lda_s hs
  cases e2
  refine lv_aload hx hb hd (hl.2.2.2 _ _ e1) ?_
  exact kk ad H locs cells slots ls I hl

theorem ms_istore_n {n : Fin 4} (C : m_C k X p R s m args meth c D dA A ad0) (I : m_I D dA A s ad0 ad N0 S0 h H locs cells slots) (hl : m_lo ls (m_n k) L ad) (hd : decode (m_b k) pc = .ok (.istore_n n, m_ln (.istore_n n) len)) (hs : m_sA k (.istore_n n) pc L st h = some q) (kk : m_KK p l e R s m args below meth c Q D dA A ad0 N0 S0 (m_n k) q) : W p l e R s m args below meth c H locs cells slots Q (F0 m pc ls (st.map (m_cv ad))) := by
  have hx := C.1
  have hb := C.2.1
  obtain ⟨x, r, rfl, e1⟩ := m_i_s hs
  obtain ⟨e2, e3⟩ := m_c_s e1
  cases e3
  refine lv_istore_n hx hb hd rfl (m_lo_has hl) (by rw [← hl.2.2.1]; exact e2) rfl (fun ls2 hl2 => ?_)
  exact kk ad H locs cells slots ls2 I (m_lo_st1 hl hl2)

theorem ms_istore {n : Nat} (C : m_C k X p R s m args meth c D dA A ad0) (I : m_I D dA A s ad0 ad N0 S0 h H locs cells slots) (hl : m_lo ls (m_n k) L ad) (hd : decode (m_b k) pc = .ok (.istore n, m_ln (.istore n) len)) (hs : m_sA k (.istore n) pc L st h = some q) (kk : m_KK p l e R s m args below meth c Q D dA A ad0 N0 S0 (m_n k) q) : W p l e R s m args below meth c H locs cells slots Q (F0 m pc ls (st.map (m_cv ad))) := by
  have hx := C.1
  have hb := C.2.1
  obtain ⟨x, r, rfl, e1⟩ := m_i_s hs
  obtain ⟨e2, e3⟩ := m_c_s e1
  cases e3
  refine lv_istore hx hb hd (m_lo_has hl) (by rw [← hl.2.2.1]; exact e2) rfl (fun ls2 hl2 => ?_)
  exact kk ad H locs cells slots ls2 I (m_lo_st1 hl hl2)

theorem ms_lstore_n {n : Fin 4} (C : m_C k X p R s m args meth c D dA A ad0) (I : m_I D dA A s ad0 ad N0 S0 h H locs cells slots) (hl : m_lo ls (m_n k) L ad) (hd : decode (m_b k) pc = .ok (.lstore_n n, m_ln (.lstore_n n) len)) (hs : m_sA k (.lstore_n n) pc L st h = some q) (kk : m_KK p l e R s m args below meth c Q D dA A ad0 N0 S0 (m_n k) q) : W p l e R s m args below meth c H locs cells slots Q (F0 m pc ls (st.map (m_cv ad))) := by
  have hx := C.1
  have hb := C.2.1
  obtain ⟨x, r, rfl, e1⟩ := m_j_s hs
  obtain ⟨e2, e3⟩ := m_c_s e1
  cases e3
  refine lv_lstore_n hx hb hd rfl (m_lo_has hl) (by rw [← hl.2.2.1]; exact e2) rfl (fun ls2 hl2 => ?_)
  exact kk ad H locs cells slots ls2 I (m_lo_st2 hl hl2)

theorem ms_lstore {n : Nat} (C : m_C k X p R s m args meth c D dA A ad0) (I : m_I D dA A s ad0 ad N0 S0 h H locs cells slots) (hl : m_lo ls (m_n k) L ad) (hd : decode (m_b k) pc = .ok (.lstore n, m_ln (.lstore n) len)) (hs : m_sA k (.lstore n) pc L st h = some q) (kk : m_KK p l e R s m args below meth c Q D dA A ad0 N0 S0 (m_n k) q) : W p l e R s m args below meth c H locs cells slots Q (F0 m pc ls (st.map (m_cv ad))) := by
  have hx := C.1
  have hb := C.2.1
  obtain ⟨x, r, rfl, e1⟩ := m_j_s hs
  obtain ⟨e2, e3⟩ := m_c_s e1
  cases e3
  refine lv_lstore hx hb hd (m_lo_has hl) (by rw [← hl.2.2.1]; exact e2) rfl (fun ls2 hl2 => ?_)
  exact kk ad H locs cells slots ls2 I (m_lo_st2 hl hl2)

theorem ms_astore_n {n : Fin 4} (C : m_C k X p R s m args meth c D dA A ad0) (I : m_I D dA A s ad0 ad N0 S0 h H locs cells slots) (hl : m_lo ls (m_n k) L ad) (hd : decode (m_b k) pc = .ok (.astore_n n, m_ln (.astore_n n) len)) (hs : m_sA k (.astore_n n) pc L st h = some q) (kk : m_KK p l e R s m args below meth c Q D dA A ad0 N0 S0 (m_n k) q) : W p l e R s m args below meth c H locs cells slots Q (F0 m pc ls (st.map (m_cv ad))) := by
  have hx := C.1
  have hb := C.2.1
  obtain ⟨x, r, rfl, e1⟩ := m_a_s hs
  obtain ⟨e2, e3⟩ := m_c_s e1
  cases e3
  refine lv_astore_n hx hb hd rfl (m_lo_has hl) (by rw [← hl.2.2.1]; exact e2) rfl (fun ls2 hl2 => ?_)
  exact kk ad H locs cells slots ls2 I (m_lo_st1 hl hl2)

theorem ms_astore {n : Nat} (C : m_C k X p R s m args meth c D dA A ad0) (I : m_I D dA A s ad0 ad N0 S0 h H locs cells slots) (hl : m_lo ls (m_n k) L ad) (hd : decode (m_b k) pc = .ok (.astore n, m_ln (.astore n) len)) (hs : m_sA k (.astore n) pc L st h = some q) (kk : m_KK p l e R s m args below meth c Q D dA A ad0 N0 S0 (m_n k) q) : W p l e R s m args below meth c H locs cells slots Q (F0 m pc ls (st.map (m_cv ad))) := by
  have hx := C.1
  have hb := C.2.1
  obtain ⟨x, r, rfl, e1⟩ := m_a_s hs
  obtain ⟨e2, e3⟩ := m_c_s e1
  cases e3
  refine lv_astore hx hb hd (m_lo_has hl) (by rw [← hl.2.2.1]; exact e2) rfl (fun ls2 hl2 => ?_)
  exact kk ad H locs cells slots ls2 I (m_lo_st1 hl hl2)

theorem ms_iinc {n : Nat} {z : Int} (C : m_C k X p R s m args meth c D dA A ad0) (I : m_I D dA A s ad0 ad N0 S0 h H locs cells slots) (hl : m_lo ls (m_n k) L ad) (hd : decode (m_b k) pc = .ok (.iinc n z, m_ln (.iinc n z) len)) (hs : m_sA k (.iinc n z) pc L st h = some q) (kk : m_KK p l e R s m args below meth c Q D dA A ad0 N0 S0 (m_n k) q) : W p l e R s m args below meth c H locs cells slots Q (F0 m pc ls (st.map (m_cv ad))) := by
  have hx := C.1
  have hb := C.2.1
  obtain ⟨x, e0, e1⟩ := m_ldi_s hs
  obtain ⟨e2, e3⟩ := m_c_s e1
  cases e3
  obtain ⟨j, hj⟩ := List.getElem?_of_mem (m_prs_in (ad := ad) e0)
  refine lv_iinc (k := j) (x := x) (v := x + Int32.ofInt z) hx hb hd (m_lo_has hl) hj rfl (by rw [← hl.2.2.1]; exact e2) rfl (fun ls2 hl2 => ?_)
  exact kk ad H locs cells slots ls2 I (m_lo_st1 hl hl2)

theorem ms_iadd (C : m_C k X p R s m args meth c D dA A ad0) (I : m_I D dA A s ad0 ad N0 S0 h H locs cells slots) (hl : m_lo ls (m_n k) L ad) (hd : decode (m_b k) pc = .ok (.iadd, m_ln (.iadd) len)) (hs : m_sA k (.iadd) pc L st h = some q) (kk : m_KK p l e R s m args below meth c Q D dA A ad0 N0 S0 (m_n k) q) : W p l e R s m args below meth c H locs cells slots Q (F0 m pc ls (st.map (m_cv ad))) := by
  have hx := C.1
  have hb := C.2.1
  obtain ⟨x, y, r, rfl, e1⟩ := m_ii_s hs
  cases e1
  refine lv_iadd hx hb hd ?_
  exact kk ad H locs cells slots ls I hl

theorem ms_isub (C : m_C k X p R s m args meth c D dA A ad0) (I : m_I D dA A s ad0 ad N0 S0 h H locs cells slots) (hl : m_lo ls (m_n k) L ad) (hd : decode (m_b k) pc = .ok (.isub, m_ln (.isub) len)) (hs : m_sA k (.isub) pc L st h = some q) (kk : m_KK p l e R s m args below meth c Q D dA A ad0 N0 S0 (m_n k) q) : W p l e R s m args below meth c H locs cells slots Q (F0 m pc ls (st.map (m_cv ad))) := by
  have hx := C.1
  have hb := C.2.1
  obtain ⟨x, y, r, rfl, e1⟩ := m_ii_s hs
  cases e1
  refine lv_isub hx hb hd ?_
  exact kk ad H locs cells slots ls I hl

theorem ms_imul (C : m_C k X p R s m args meth c D dA A ad0) (I : m_I D dA A s ad0 ad N0 S0 h H locs cells slots) (hl : m_lo ls (m_n k) L ad) (hd : decode (m_b k) pc = .ok (.imul, m_ln (.imul) len)) (hs : m_sA k (.imul) pc L st h = some q) (kk : m_KK p l e R s m args below meth c Q D dA A ad0 N0 S0 (m_n k) q) : W p l e R s m args below meth c H locs cells slots Q (F0 m pc ls (st.map (m_cv ad))) := by
  have hx := C.1
  have hb := C.2.1
  obtain ⟨x, y, r, rfl, e1⟩ := m_ii_s hs
  cases e1
  refine lv_imul hx hb hd ?_
  exact kk ad H locs cells slots ls I hl

theorem ms_iand (C : m_C k X p R s m args meth c D dA A ad0) (I : m_I D dA A s ad0 ad N0 S0 h H locs cells slots) (hl : m_lo ls (m_n k) L ad) (hd : decode (m_b k) pc = .ok (.iand, m_ln (.iand) len)) (hs : m_sA k (.iand) pc L st h = some q) (kk : m_KK p l e R s m args below meth c Q D dA A ad0 N0 S0 (m_n k) q) : W p l e R s m args below meth c H locs cells slots Q (F0 m pc ls (st.map (m_cv ad))) := by
  have hx := C.1
  have hb := C.2.1
  obtain ⟨x, y, r, rfl, e1⟩ := m_ii_s hs
  cases e1
  refine lv_iand hx hb hd ?_
  exact kk ad H locs cells slots ls I hl

theorem ms_ior (C : m_C k X p R s m args meth c D dA A ad0) (I : m_I D dA A s ad0 ad N0 S0 h H locs cells slots) (hl : m_lo ls (m_n k) L ad) (hd : decode (m_b k) pc = .ok (.ior, m_ln (.ior) len)) (hs : m_sA k (.ior) pc L st h = some q) (kk : m_KK p l e R s m args below meth c Q D dA A ad0 N0 S0 (m_n k) q) : W p l e R s m args below meth c H locs cells slots Q (F0 m pc ls (st.map (m_cv ad))) := by
  have hx := C.1
  have hb := C.2.1
  obtain ⟨x, y, r, rfl, e1⟩ := m_ii_s hs
  cases e1
  refine lv_ior hx hb hd ?_
  exact kk ad H locs cells slots ls I hl

theorem ms_ixor (C : m_C k X p R s m args meth c D dA A ad0) (I : m_I D dA A s ad0 ad N0 S0 h H locs cells slots) (hl : m_lo ls (m_n k) L ad) (hd : decode (m_b k) pc = .ok (.ixor, m_ln (.ixor) len)) (hs : m_sA k (.ixor) pc L st h = some q) (kk : m_KK p l e R s m args below meth c Q D dA A ad0 N0 S0 (m_n k) q) : W p l e R s m args below meth c H locs cells slots Q (F0 m pc ls (st.map (m_cv ad))) := by
  have hx := C.1
  have hb := C.2.1
  obtain ⟨x, y, r, rfl, e1⟩ := m_ii_s hs
  cases e1
  refine lv_ixor hx hb hd ?_
  exact kk ad H locs cells slots ls I hl

theorem ms_ishl (C : m_C k X p R s m args meth c D dA A ad0) (I : m_I D dA A s ad0 ad N0 S0 h H locs cells slots) (hl : m_lo ls (m_n k) L ad) (hd : decode (m_b k) pc = .ok (.ishl, m_ln (.ishl) len)) (hs : m_sA k (.ishl) pc L st h = some q) (kk : m_KK p l e R s m args below meth c Q D dA A ad0 N0 S0 (m_n k) q) : W p l e R s m args below meth c H locs cells slots Q (F0 m pc ls (st.map (m_cv ad))) := by
  have hx := C.1
  have hb := C.2.1
  obtain ⟨x, y, r, rfl, e1⟩ := m_ii_s hs
  cases e1
  refine lv_ishl hx hb hd ?_
  exact kk ad H locs cells slots ls I hl

theorem ms_ishr (C : m_C k X p R s m args meth c D dA A ad0) (I : m_I D dA A s ad0 ad N0 S0 h H locs cells slots) (hl : m_lo ls (m_n k) L ad) (hd : decode (m_b k) pc = .ok (.ishr, m_ln (.ishr) len)) (hs : m_sA k (.ishr) pc L st h = some q) (kk : m_KK p l e R s m args below meth c Q D dA A ad0 N0 S0 (m_n k) q) : W p l e R s m args below meth c H locs cells slots Q (F0 m pc ls (st.map (m_cv ad))) := by
  have hx := C.1
  have hb := C.2.1
  obtain ⟨x, y, r, rfl, e1⟩ := m_ii_s hs
  cases e1
  refine lv_ishr hx hb hd ?_
  exact kk ad H locs cells slots ls I hl

theorem ms_iushr (C : m_C k X p R s m args meth c D dA A ad0) (I : m_I D dA A s ad0 ad N0 S0 h H locs cells slots) (hl : m_lo ls (m_n k) L ad) (hd : decode (m_b k) pc = .ok (.iushr, m_ln (.iushr) len)) (hs : m_sA k (.iushr) pc L st h = some q) (kk : m_KK p l e R s m args below meth c Q D dA A ad0 N0 S0 (m_n k) q) : W p l e R s m args below meth c H locs cells slots Q (F0 m pc ls (st.map (m_cv ad))) := by
  have hx := C.1
  have hb := C.2.1
  obtain ⟨x, y, r, rfl, e1⟩ := m_ii_s hs
  cases e1
  refine lv_iushr hx hb hd rfl ?_
  exact kk ad H locs cells slots ls I hl

theorem ms_idiv (C : m_C k X p R s m args meth c D dA A ad0) (I : m_I D dA A s ad0 ad N0 S0 h H locs cells slots) (hl : m_lo ls (m_n k) L ad) (hd : decode (m_b k) pc = .ok (.idiv, m_ln (.idiv) len)) (hs : m_sA k (.idiv) pc L st h = some q) (kk : m_KK p l e R s m args below meth c Q D dA A ad0 N0 S0 (m_n k) q) : W p l e R s m args below meth c H locs cells slots Q (F0 m pc ls (st.map (m_cv ad))) := by
  have hx := C.1
  have hb := C.2.1
  obtain ⟨x, y, r, rfl, e1⟩ := m_ii_s hs
  obtain ⟨e2, e3⟩ := m_c_s e1
  cases e3
  refine lv_idiv hx hb hd e2 ?_
  exact kk ad H locs cells slots ls I hl

theorem ms_irem (C : m_C k X p R s m args meth c D dA A ad0) (I : m_I D dA A s ad0 ad N0 S0 h H locs cells slots) (hl : m_lo ls (m_n k) L ad) (hd : decode (m_b k) pc = .ok (.irem, m_ln (.irem) len)) (hs : m_sA k (.irem) pc L st h = some q) (kk : m_KK p l e R s m args below meth c Q D dA A ad0 N0 S0 (m_n k) q) : W p l e R s m args below meth c H locs cells slots Q (F0 m pc ls (st.map (m_cv ad))) := by
  have hx := C.1
  have hb := C.2.1
  obtain ⟨x, y, r, rfl, e1⟩ := m_ii_s hs
  obtain ⟨e2, e3⟩ := m_c_s e1
  cases e3
  refine lv_irem hx hb hd e2 ?_
  exact kk ad H locs cells slots ls I hl

theorem ms_ladd (C : m_C k X p R s m args meth c D dA A ad0) (I : m_I D dA A s ad0 ad N0 S0 h H locs cells slots) (hl : m_lo ls (m_n k) L ad) (hd : decode (m_b k) pc = .ok (.ladd, m_ln (.ladd) len)) (hs : m_sA k (.ladd) pc L st h = some q) (kk : m_KK p l e R s m args below meth c Q D dA A ad0 N0 S0 (m_n k) q) : W p l e R s m args below meth c H locs cells slots Q (F0 m pc ls (st.map (m_cv ad))) := by
  have hx := C.1
  have hb := C.2.1
  obtain ⟨x, y, r, rfl, e1⟩ := m_jj_s hs
  cases e1
  refine lv_ladd hx hb hd ?_
  exact kk ad H locs cells slots ls I hl

theorem ms_lmul (C : m_C k X p R s m args meth c D dA A ad0) (I : m_I D dA A s ad0 ad N0 S0 h H locs cells slots) (hl : m_lo ls (m_n k) L ad) (hd : decode (m_b k) pc = .ok (.lmul, m_ln (.lmul) len)) (hs : m_sA k (.lmul) pc L st h = some q) (kk : m_KK p l e R s m args below meth c Q D dA A ad0 N0 S0 (m_n k) q) : W p l e R s m args below meth c H locs cells slots Q (F0 m pc ls (st.map (m_cv ad))) := by
  have hx := C.1
  have hb := C.2.1
  obtain ⟨x, y, r, rfl, e1⟩ := m_jj_s hs
  cases e1
  refine lv_lmul hx hb hd ?_
  exact kk ad H locs cells slots ls I hl

theorem ms_lcmp (C : m_C k X p R s m args meth c D dA A ad0) (I : m_I D dA A s ad0 ad N0 S0 h H locs cells slots) (hl : m_lo ls (m_n k) L ad) (hd : decode (m_b k) pc = .ok (.lcmp, m_ln (.lcmp) len)) (hs : m_sA k (.lcmp) pc L st h = some q) (kk : m_KK p l e R s m args below meth c Q D dA A ad0 N0 S0 (m_n k) q) : W p l e R s m args below meth c H locs cells slots Q (F0 m pc ls (st.map (m_cv ad))) := by
  have hx := C.1
  have hb := C.2.1
  obtain ⟨x, y, r, rfl, e1⟩ := m_jj_s hs
  cases e1
  refine W.lcmp hx hb hd ?_
  exact kk ad H locs cells slots ls I hl

theorem ms_ldiv (C : m_C k X p R s m args meth c D dA A ad0) (I : m_I D dA A s ad0 ad N0 S0 h H locs cells slots) (hl : m_lo ls (m_n k) L ad) (hd : decode (m_b k) pc = .ok (.ldiv, m_ln (.ldiv) len)) (hs : m_sA k (.ldiv) pc L st h = some q) (kk : m_KK p l e R s m args below meth c Q D dA A ad0 N0 S0 (m_n k) q) : W p l e R s m args below meth c H locs cells slots Q (F0 m pc ls (st.map (m_cv ad))) := by
  have hx := C.1
  have hb := C.2.1
  obtain ⟨x, y, r, rfl, e1⟩ := m_jj_s hs
  obtain ⟨e2, e3⟩ := m_c_s e1
  cases e3
  refine lv_ldiv hx hb hd e2 ?_
  exact kk ad H locs cells slots ls I hl

theorem ms_lrem (C : m_C k X p R s m args meth c D dA A ad0) (I : m_I D dA A s ad0 ad N0 S0 h H locs cells slots) (hl : m_lo ls (m_n k) L ad) (hd : decode (m_b k) pc = .ok (.lrem, m_ln (.lrem) len)) (hs : m_sA k (.lrem) pc L st h = some q) (kk : m_KK p l e R s m args below meth c Q D dA A ad0 N0 S0 (m_n k) q) : W p l e R s m args below meth c H locs cells slots Q (F0 m pc ls (st.map (m_cv ad))) := by
  have hx := C.1
  have hb := C.2.1
  obtain ⟨x, y, r, rfl, e1⟩ := m_jj_s hs
  obtain ⟨e2, e3⟩ := m_c_s e1
  cases e3
  refine lv_lrem hx hb hd e2 ?_
  exact kk ad H locs cells slots ls I hl

theorem ms_i2l (C : m_C k X p R s m args meth c D dA A ad0) (I : m_I D dA A s ad0 ad N0 S0 h H locs cells slots) (hl : m_lo ls (m_n k) L ad) (hd : decode (m_b k) pc = .ok (.i2l, m_ln (.i2l) len)) (hs : m_sA k (.i2l) pc L st h = some q) (kk : m_KK p l e R s m args below meth c Q D dA A ad0 N0 S0 (m_n k) q) : W p l e R s m args below meth c H locs cells slots Q (F0 m pc ls (st.map (m_cv ad))) := by
  have hx := C.1
  have hb := C.2.1
  obtain ⟨x, r, rfl, e1⟩ := m_i_s hs
  cases e1
  refine lv_i2l hx hb hd rfl ?_
  exact kk ad H locs cells slots ls I hl

theorem ms_l2i (C : m_C k X p R s m args meth c D dA A ad0) (I : m_I D dA A s ad0 ad N0 S0 h H locs cells slots) (hl : m_lo ls (m_n k) L ad) (hd : decode (m_b k) pc = .ok (.l2i, m_ln (.l2i) len)) (hs : m_sA k (.l2i) pc L st h = some q) (kk : m_KK p l e R s m args below meth c Q D dA A ad0 N0 S0 (m_n k) q) : W p l e R s m args below meth c H locs cells slots Q (F0 m pc ls (st.map (m_cv ad))) := by
  have hx := C.1
  have hb := C.2.1
  obtain ⟨x, r, rfl, e1⟩ := m_j_s hs
  cases e1
  refine lv_l2i hx hb hd rfl ?_
  exact kk ad H locs cells slots ls I hl

theorem ms_i2b (C : m_C k X p R s m args meth c D dA A ad0) (I : m_I D dA A s ad0 ad N0 S0 h H locs cells slots) (hl : m_lo ls (m_n k) L ad) (hd : decode (m_b k) pc = .ok (.i2b, m_ln (.i2b) len)) (hs : m_sA k (.i2b) pc L st h = some q) (kk : m_KK p l e R s m args below meth c Q D dA A ad0 N0 S0 (m_n k) q) : W p l e R s m args below meth c H locs cells slots Q (F0 m pc ls (st.map (m_cv ad))) := by
  have hx := C.1
  have hb := C.2.1
  obtain ⟨x, r, rfl, e1⟩ := m_i_s hs
  cases e1
  refine lv_i2b hx hb hd rfl ?_
  exact kk ad H locs cells slots ls I hl

theorem ms_dup (C : m_C k X p R s m args meth c D dA A ad0) (I : m_I D dA A s ad0 ad N0 S0 h H locs cells slots) (hl : m_lo ls (m_n k) L ad) (hd : decode (m_b k) pc = .ok (.dup, m_ln (.dup) len)) (hs : m_sA k (.dup) pc L st h = some q) (kk : m_KK p l e R s m args below meth c Q D dA A ad0 N0 S0 (m_n k) q) : W p l e R s m args below meth c H locs cells slots Q (F0 m pc ls (st.map (m_cv ad))) := by
  have hx := C.1
  have hb := C.2.1
  obtain ⟨v, r, rfl, e1⟩ := m_v_s hs
  obtain ⟨e2, e3⟩ := m_c_s e1
  cases e3
  refine lv_dup hx hb hd (by rw [m_cv_cat]; exact e2) ?_
  exact kk ad H locs cells slots ls I hl

theorem ms_pop (C : m_C k X p R s m args meth c D dA A ad0) (I : m_I D dA A s ad0 ad N0 S0 h H locs cells slots) (hl : m_lo ls (m_n k) L ad) (hd : decode (m_b k) pc = .ok (.pop, m_ln (.pop) len)) (hs : m_sA k (.pop) pc L st h = some q) (kk : m_KK p l e R s m args below meth c Q D dA A ad0 N0 S0 (m_n k) q) : W p l e R s m args below meth c H locs cells slots Q (F0 m pc ls (st.map (m_cv ad))) := by
  have hx := C.1
  have hb := C.2.1
  obtain ⟨v, r, rfl, e1⟩ := m_v_s hs
  obtain ⟨e2, e3⟩ := m_c_s e1
  cases e3
  refine lv_pop hx hb hd (by rw [m_cv_cat]; exact e2) ?_
  exact kk ad H locs cells slots ls I hl

theorem ms_dup2 (C : m_C k X p R s m args meth c D dA A ad0) (I : m_I D dA A s ad0 ad N0 S0 h H locs cells slots) (hl : m_lo ls (m_n k) L ad) (hd : decode (m_b k) pc = .ok (.dup2, m_ln (.dup2) len)) (hs : m_sA k (.dup2) pc L st h = some q) (kk : m_KK p l e R s m args below meth c Q D dA A ad0 N0 S0 (m_n k) q) : W p l e R s m args below meth c H locs cells slots Q (F0 m pc ls (st.map (m_cv ad))) := by
  have hx := C.1
  have hb := C.2.1
  obtain ⟨v, r, rfl, e1⟩ := m_v_s hs
  split at e1
  · next hc =>
    cases e1
    refine lv_dup2_2 hx hb hd (by rw [m_cv_cat]; exact hc) ?_
    exact kk ad H locs cells slots ls I hl
  · next hc =>
    obtain ⟨w, r2, rfl, e1⟩ := m_v_s e1
    obtain ⟨e2, e3⟩ := m_c_s e1
    cases e3
    have hc1 : v.category = 1 := by rcases lv_cat v with z | z <;> omega
    refine lv_dup2_11 hx hb hd (by rw [m_cv_cat]; exact hc1) (by rw [m_cv_cat]; exact e2) ?_
    exact kk ad H locs cells slots ls I hl

theorem m_br_ok {b : Prop} {db : Decidable b} {off : Int} (hs : @m_br pc off b db L st h = some q) : ∃ tgt : Nat, (pc : Int) + off = (tgt : Int) ∧ (b → q = (tgt, L, st, h)) ∧ (¬ b → q = (pc + 3, L, st, h)) := by
  unfold m_br at hs
  obtain ⟨h1, h2⟩ := m_c_s hs
  refine ⟨((pc : Int) + off).toNat, by omega, ?_⟩
  split at h2
  · next hb => cases h2; exact ⟨fun _ => rfl, fun z => absurd hb z⟩
  · next hb => cases h2; exact ⟨fun z => absurd z hb, fun _ => rfl⟩

theorem ms_ifCond {cd : ClassFile.Cond} {off : Int} (C : m_C k X p R s m args meth c D dA A ad0) (I : m_I D dA A s ad0 ad N0 S0 h H locs cells slots) (hl : m_lo ls (m_n k) L ad) (hd : decode (m_b k) pc = .ok (.ifCond cd off, m_ln (.ifCond cd off) len)) (hs : m_sA k (.ifCond cd off) pc L st h = some q) (kk : m_KK p l e R s m args below meth c Q D dA A ad0 N0 S0 (m_n k) q) : W p l e R s m args below meth c H locs cells slots Q (F0 m pc ls (st.map (m_cv ad))) := by
  have hx := C.1
  have hb := C.2.1
  obtain ⟨x, r, rfl, e1⟩ := m_i_s hs
  cases cd with
  | eq =>
    obtain ⟨tgt, ht, f1, f2⟩ := m_br_ok e1
    refine lv_if_eq (tgt := tgt) hx hb hd ht (fun z => ?_) (fun z => ?_)
    · obtain rfl := f1 z
      exact kk ad H locs cells slots ls I hl
    · obtain rfl := f2 z
      exact kk ad H locs cells slots ls I hl
  | ne =>
    obtain ⟨tgt, ht, f1, f2⟩ := m_br_ok e1
    refine lv_if_ne (tgt := tgt) hx hb hd ht (fun z => ?_) (fun z => ?_)
    · obtain rfl := f1 z
      exact kk ad H locs cells slots ls I hl
    · obtain rfl := f2 (fun w => w z)
      exact kk ad H locs cells slots ls I hl
  | lt =>
    obtain ⟨tgt, ht, f1, f2⟩ := m_br_ok e1
    refine lv_if_lt (tgt := tgt) hx hb hd ht (fun z => ?_) (fun z => ?_)
    · obtain rfl := f1 z
      exact kk ad H locs cells slots ls I hl
    · obtain rfl := f2 z
      exact kk ad H locs cells slots ls I hl
  | ge =>
    obtain ⟨tgt, ht, f1, f2⟩ := m_br_ok e1
    refine lv_if_ge (tgt := tgt) hx hb hd ht (fun z => ?_) (fun z => ?_)
    · obtain rfl := f1 z
      exact kk ad H locs cells slots ls I hl
    · obtain rfl := f2 z
      exact kk ad H locs cells slots ls I hl
  | gt =>
    obtain ⟨tgt, ht, f1, f2⟩ := m_br_ok e1
    refine lv_if_gt (tgt := tgt) hx hb hd ht (fun z => ?_) (fun z => ?_)
    · obtain rfl := f1 z
      exact kk ad H locs cells slots ls I hl
    · obtain rfl := f2 z
      exact kk ad H locs cells slots ls I hl
  | le =>
    obtain ⟨tgt, ht, f1, f2⟩ := m_br_ok e1
    refine lv_if_le (tgt := tgt) hx hb hd ht (fun z => ?_) (fun z => ?_)
    · obtain rfl := f1 z
      exact kk ad H locs cells slots ls I hl
    · obtain rfl := f2 z
      exact kk ad H locs cells slots ls I hl

theorem ms_if_icmp {cd : ClassFile.Cond} {off : Int} (C : m_C k X p R s m args meth c D dA A ad0) (I : m_I D dA A s ad0 ad N0 S0 h H locs cells slots) (hl : m_lo ls (m_n k) L ad) (hd : decode (m_b k) pc = .ok (.if_icmp cd off, m_ln (.if_icmp cd off) len)) (hs : m_sA k (.if_icmp cd off) pc L st h = some q) (kk : m_KK p l e R s m args below meth c Q D dA A ad0 N0 S0 (m_n k) q) : W p l e R s m args below meth c H locs cells slots Q (F0 m pc ls (st.map (m_cv ad))) := by
  have hx := C.1
  have hb := C.2.1
  obtain ⟨x, y, r, rfl, e1⟩ := m_ii_s hs
  cases cd with
  | eq =>
    obtain ⟨tgt, ht, f1, f2⟩ := m_br_ok e1
    refine lv_icmp_eq (tgt := tgt) hx hb hd ht (fun z => ?_) (fun z => ?_)
    · obtain rfl := f1 z
      exact kk ad H locs cells slots ls I hl
    · obtain rfl := f2 z
      exact kk ad H locs cells slots ls I hl
  | ne =>
    obtain ⟨tgt, ht, f1, f2⟩ := m_br_ok e1
    refine lv_icmp_ne (tgt := tgt) hx hb hd ht (fun z => ?_) (fun z => ?_)
    · obtain rfl := f1 z
      exact kk ad H locs cells slots ls I hl
    · obtain rfl := f2 (fun w => w z)
      exact kk ad H locs cells slots ls I hl
  | lt =>
    obtain ⟨tgt, ht, f1, f2⟩ := m_br_ok e1
    refine lv_icmp_lt (tgt := tgt) hx hb hd ht (fun z => ?_) (fun z => ?_)
    · obtain rfl := f1 z
      exact kk ad H locs cells slots ls I hl
    · obtain rfl := f2 z
      exact kk ad H locs cells slots ls I hl
  | ge =>
    obtain ⟨tgt, ht, f1, f2⟩ := m_br_ok e1
    refine lv_icmp_ge (tgt := tgt) hx hb hd ht (fun z => ?_) (fun z => ?_)
    · obtain rfl := f1 z
      exact kk ad H locs cells slots ls I hl
    · obtain rfl := f2 z
      exact kk ad H locs cells slots ls I hl
  | gt =>
    obtain ⟨tgt, ht, f1, f2⟩ := m_br_ok e1
    refine lv_icmp_gt (tgt := tgt) hx hb hd ht (fun z => ?_) (fun z => ?_)
    · obtain rfl := f1 z
      exact kk ad H locs cells slots ls I hl
    · obtain rfl := f2 z
      exact kk ad H locs cells slots ls I hl
  | le =>
    obtain ⟨tgt, ht, f1, f2⟩ := m_br_ok e1
    refine lv_icmp_le (tgt := tgt) hx hb hd ht (fun z => ?_) (fun z => ?_)
    · obtain rfl := f1 z
      exact kk ad H locs cells slots ls I hl
    · obtain rfl := f2 z
      exact kk ad H locs cells slots ls I hl

theorem ms_goto {off : Int} (C : m_C k X p R s m args meth c D dA A ad0) (I : m_I D dA A s ad0 ad N0 S0 h H locs cells slots) (hl : m_lo ls (m_n k) L ad) (hd : decode (m_b k) pc = .ok (.goto off, m_ln (.goto off) len)) (hs : m_sA k (.goto off) pc L st h = some q) (kk : m_KK p l e R s m args below meth c Q D dA A ad0 N0 S0 (m_n k) q) : W p l e R s m args below meth c H locs cells slots Q (F0 m pc ls (st.map (m_cv ad))) := by
  have hx := C.1
  have hb := C.2.1
  obtain ⟨tgt, ht, rfl⟩ := m_go_ok hs
  refine lv_goto (tgt := tgt) hx hb hd ht ?_
  exact kk ad H locs cells slots ls I hl

theorem ms_tableswitch {dv lo hi : Int} {offs : Array Int} (C : m_C k X p R s m args meth c D dA A ad0) (I : m_I D dA A s ad0 ad N0 S0 h H locs cells slots) (hl : m_lo ls (m_n k) L ad) (hd : decode (m_b k) pc = .ok (.tableswitch dv lo hi offs, m_ln (.tableswitch dv lo hi offs) len)) (hs : m_sA k (.tableswitch dv lo hi offs) pc L st h = some q) (kk : m_KK p l e R s m args below meth c Q D dA A ad0 N0 S0 (m_n k) q) : W p l e R s m args below meth c H locs cells slots Q (F0 m pc ls (st.map (m_cv ad))) := by
  have hx := C.1
  have hb := C.2.1
  obtain ⟨x, r, rfl, e1⟩ := m_i_s hs
  split at e1
  · next hc =>
    obtain ⟨tgt, ht, rfl⟩ := m_go_ok e1
    refine lv_tableOut (tgt := tgt) hx hb hd hc ht ?_
    exact kk ad H locs cells slots ls I hl
  · next hc =>
    split at e1
    · next o ho =>
      obtain ⟨tgt, ht, rfl⟩ := m_go_ok e1
      refine lv_tableIn (tgt := tgt) hx hb hd (fun z => hc (Or.inl z)) (fun z => hc (Or.inr z)) ho ht ?_
      exact kk ad H locs cells slots ls I hl
    · cases e1

theorem ms_lookupswitch {dv : Int} {ps : Array (Int × Int)} (C : m_C k X p R s m args meth c D dA A ad0) (I : m_I D dA A s ad0 ad N0 S0 h H locs cells slots) (hl : m_lo ls (m_n k) L ad) (hd : decode (m_b k) pc = .ok (.lookupswitch dv ps, m_ln (.lookupswitch dv ps) len)) (hs : m_sA k (.lookupswitch dv ps) pc L st h = some q) (kk : m_KK p l e R s m args below meth c Q D dA A ad0 N0 S0 (m_n k) q) : W p l e R s m args below meth c H locs cells slots Q (F0 m pc ls (st.map (m_cv ad))) := by
  have hx := C.1
  have hb := C.2.1
  obtain ⟨x, r, rfl, e1⟩ := m_i_s hs
  obtain ⟨h1, e1⟩ := m_c_s e1
  obtain ⟨tgt, ht, rfl⟩ := m_go_ok e1
  refine lv_lookup (tgt := tgt) hx hb hd h1 rfl ht ?_
  exact kk ad H locs cells slots ls I hl

theorem m_sA_ok {i : Instr} (C : m_C k X p R s m args meth c D dA A ad0) (I : m_I D dA A s ad0 ad N0 S0 h H locs cells slots) (hl : m_lo ls (m_n k) L ad) (hd : decode (m_b k) pc = .ok (i, m_ln i len)) (hs : m_sA k i pc L st h = some q) (kk : m_KK p l e R s m args below meth c Q D dA A ad0 N0 S0 (m_n k) q) : W p l e R s m args below meth c H locs cells slots Q (F0 m pc ls (st.map (m_cv ad))) := by
  cases i with
  | iconst _ => exact ms_iconst C I hl hd hs kk
  | bipush _ => exact ms_bipush C I hl hd hs kk
  | sipush _ => exact ms_sipush C I hl hd hs kk
  | lconst _ => exact ms_lconst C I hl hd hs kk
  | ldc_w _ => exact ms_ldc_w C I hl hd hs kk
  | ldc _ => exact ms_ldc C I hl hd hs kk
  | ldc2_w _ => exact ms_ldc2_w C I hl hd hs kk
  | iload_n _ => exact ms_iload_n C I hl hd hs kk
  | lload_n _ => exact ms_lload_n C I hl hd hs kk
  | aload_n _ => exact ms_aload_n C I hl hd hs kk
  | iload _ => exact ms_iload C I hl hd hs kk
  | lload _ => exact ms_lload C I hl hd hs kk
  | aload _ => exact ms_aload C I hl hd hs kk
  | istore_n _ => exact ms_istore_n C I hl hd hs kk
  | istore _ => exact ms_istore C I hl hd hs kk
  | lstore_n _ => exact ms_lstore_n C I hl hd hs kk
  | lstore _ => exact ms_lstore C I hl hd hs kk
  | astore_n _ => exact ms_astore_n C I hl hd hs kk
  | astore _ => exact ms_astore C I hl hd hs kk
  | iinc _ _ => exact ms_iinc C I hl hd hs kk
  | iadd => exact ms_iadd C I hl hd hs kk
  | isub => exact ms_isub C I hl hd hs kk
  | imul => exact ms_imul C I hl hd hs kk
  | iand => exact ms_iand C I hl hd hs kk
  | ior => exact ms_ior C I hl hd hs kk
  | ixor => exact ms_ixor C I hl hd hs kk
  | ishl => exact ms_ishl C I hl hd hs kk
  | ishr => exact ms_ishr C I hl hd hs kk
  | iushr => exact ms_iushr C I hl hd hs kk
  | idiv => exact ms_idiv C I hl hd hs kk
  | irem => exact ms_irem C I hl hd hs kk
  | ladd => exact ms_ladd C I hl hd hs kk
  | lmul => exact ms_lmul C I hl hd hs kk
  | lcmp => exact ms_lcmp C I hl hd hs kk
  | ldiv => exact ms_ldiv C I hl hd hs kk
  | lrem => exact ms_lrem C I hl hd hs kk
  | i2l => exact ms_i2l C I hl hd hs kk
  | l2i => exact ms_l2i C I hl hd hs kk
  | i2b => exact ms_i2b C I hl hd hs kk
  | dup => exact ms_dup C I hl hd hs kk
  | pop => exact ms_pop C I hl hd hs kk
  | dup2 => exact ms_dup2 C I hl hd hs kk
  | ifCond _ _ => exact ms_ifCond C I hl hd hs kk
  | if_icmp _ _ => exact ms_if_icmp C I hl hd hs kk
  | goto _ => exact ms_goto C I hl hd hs kk
  | tableswitch _ _ _ _ => exact ms_tableswitch C I hl hd hs kk
  | lookupswitch _ _ => exact ms_lookupswitch C I hl hd hs kk
  | _ => cases hs
end MSA
