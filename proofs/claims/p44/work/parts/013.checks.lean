theorem m_il_ok : m_il.all m_ilc = true := by
  simp only [m_il, List.all_append, m_il_ok_0, m_il_ok_1, Bool.and_self]
def m_oic (e : (Nat × Nat) × Nat) : Bool := m_has e.2 (.methodLink (m_cn e.1.1) e.1.2 objectInit) && m_has 1015 (.instanceMethod objectInit) && m_has 1016 (.code objectInit ⟨#[0xb1]⟩ 1 none)
theorem m_oi_ok : m_oi.all m_oic = true := by decide +kernel
def m_acc (_ : (Nat × Nat) × Nat) : Bool := false
theorem m_ac_ok : m_ac.all m_acc = true := rfl
def m_mmc (e : (Nat × Nat) × (Nat × Nat)) : Bool := m_has 1003 (.initialized "java/lang/Math") && (match e.2.1 with
  | 0 => m_has e.2.2 (.methodLink (m_cn e.1.1) e.1.2 Lib.Math.max.name) && m_has 1024 (.static Lib.Math.max.name) && m_has 1025 (.code Lib.Math.max.name Lib.Math.max.code 2 (some .int))
  | 1 => m_has e.2.2 (.methodLink (m_cn e.1.1) e.1.2 Lib.Math.min.name) && m_has 2047 (.static Lib.Math.min.name) && m_has 2048 (.code Lib.Math.min.name Lib.Math.min.code 2 (some .int))
  | _ => false)
theorem m_mm_ok : m_mm.all m_mmc = true := by decide +kernel
def m_nlc (e : (Nat × Nat) × (Nat × Nat × Nat × Nat)) : Bool := match m_cl[e.2.1]? with
  | some (C, _, N) => m_has e.2.2.1 (.classLink (m_cn e.1.1) e.1.2 C) && m_has e.2.2.2.1 (.instantiable C N) && m_has e.2.2.2.2 (.initialized C)
  | none => false
theorem m_nl_ok : m_nl.all m_nlc = true := by decide +kernel
def m_alc (e : (Nat × Nat) × Nat) : Bool := m_has e.2 (.classLink (m_cn e.1.1) e.1.2 "SnowHut$Guest")
theorem m_al_ok : m_al.all m_alc = true := by decide +kernel
def m_mlc (e : (Nat × Nat) × Nat) : Bool := m_has e.2 (.classLink (m_cn e.1.1) e.1.2 "[[I")
theorem m_ml_ok : m_ml.all m_mlc = true := by decide +kernel
def m_k32c (e : (Nat × Nat) × (Int32 × Nat)) : Bool := m_has e.2.2 (.constant (m_cn e.1.1) e.1.2 e.2.1)
theorem m_k32_ok : m_k32.all m_k32c = true := by decide +kernel
def m_k64c (e : (Nat × Nat) × (Int64 × Nat)) : Bool := m_has e.2.2 (.constantLong (m_cn e.1.1) e.1.2 e.2.1)
theorem m_k64_ok : m_k64.all m_k64c = true := by decide +kernel
def m_glc (e : (Nat × Nat) × Nat) : Bool := m_sx.any (fun x => decide (x.1 = e.2) && decide (Cond.fieldLinkNest (m_cn e.1.1) e.1.2 "SnowHut" x.2.1 "[I" "SnowHut" ∈ m_nw))
theorem m_gl_ok : m_gl.all m_glc = true := by decide +kernel
theorem m_nw_in : m_nw.all (fun w => decide (w ∈ lw_tbl)) = true := by decide +kernel
def m_clc (q : vw_C) : Bool := (u_ws q.1 q.2.1 q.2.2).all (fun w => decide (w ∈ lw_tbl) && goodWord w) && (List.range q.2.2).all (fun a => (List.range q.2.2).all (fun b => decide (a = b) || decide ((q.2.1 a).2.1 ≠ (q.2.1 b).2.1)) && (parseFieldDescriptor (q.2.1 a).2.2.1).isSome)
theorem m_cl_ok : m_cl.all m_clc = true := by decide +kernel
def m_cd (w : Cond) : Option (MethodName × ByteArray × Nat × Option FieldType) := match w with
  | .code y b n r => some (y, b, n, r)
  | _ => none
set_option maxRecDepth 100000 in
theorem m_mt_e_0 : tables_1_1.filterMap m_cd = m_mt_0.map (fun e => e.2) := rfl
set_option maxRecDepth 100000 in
theorem m_mt_e_1 : tables_1_2.filterMap m_cd = m_mt_1.map (fun e => e.2) := rfl
set_option maxRecDepth 100000 in
theorem m_mt_e_2 : tables_1_3.filterMap m_cd = m_mt_2.map (fun e => e.2) := rfl
theorem m_mt_all : ∀ e ∈ m_mt, Cond.code e.2.1 e.2.2.1 e.2.2.2.1 e.2.2.2.2 ∈ m_tb := by
  have key : ∀ (c : Nat) (l : List m_M), (m_ch c).filterMap m_cd = l.map (fun e => e.2) → ∀ e ∈ l, Cond.code e.2.1 e.2.2.1 e.2.2.2.1 e.2.2.2.2 ∈ m_tb := by
    intro c l h e he
    have h1 : e.2 ∈ (m_ch c).filterMap m_cd := by rw [h]; exact List.mem_map.mpr ⟨e, he, rfl⟩
    obtain ⟨w, hw, hw2⟩ := List.mem_filterMap.mp h1
    unfold m_cd at hw2
    split at hw2
    · have h3 := Option.some.inj hw2
      rw [← h3]
      exact List.mem_filter.mpr ⟨m_ch_in c hw, rfl⟩
    · cases hw2
  intro e he
  unfold m_mt at he
  simp only [List.mem_append] at he
  rcases he with he | he | he
  · exact key 1 _ m_mt_e_0 e he
  · exact key 2 _ m_mt_e_1 e he
  · exact key 3 _ m_mt_e_2 e he
def m_mtc (e : m_M) : Bool := decide (20 ≤ e.1) || decide (e.2.1.cls = m_cn e.1)
theorem m_mt_c_0 : m_mt_0.all m_mtc = true := by decide +kernel
theorem m_mt_c_1 : m_mt_1.all m_mtc = true := by decide +kernel
theorem m_mt_c_2 : m_mt_2.all m_mtc = true := by decide +kernel
theorem m_cn_plain : (List.range 8).all (fun c => plainName (m_cn c)) = true := by decide +kernel
theorem m_m_in (k : Nat) (hk : k < m_law) : m_m k ∈ m_mt := by
  have hl : m_pm.length = m_law := by decide +kernel
  have ha : m_pm.all (fun i => decide (i < m_mt.length)) = true := by decide +kernel
  have hk1 : k < m_pm.length := by rw [hl]; exact hk
  have hk2 : m_pm[k] < m_mt.length := of_decide_eq_true (List.all_eq_true.mp ha _ (List.getElem_mem hk1))
  have e : m_m k = m_mt[m_pm[k]] := by
    unfold m_m
    rw [List.getD_eq_getElem?_getD (l := m_pm), List.getElem?_eq_getElem hk1, Option.getD_some, List.getD_eq_getElem?_getD, List.getElem?_eq_getElem hk2, Option.getD_some]
  rw [e]
  exact List.getElem_mem hk2
theorem m_code_in (k : Nat) (hk : k < m_law) : Cond.code (m_y k) (m_b k) (m_n k) (m_r k) ∈ m_tb := m_mt_all _ (m_m_in k hk)
theorem m_mt_cn (k : Nat) (hk : k < m_law) (h20 : m_o k < 8) : (m_y k).cls = m_cn (m_o k) := by
  have h : m_mt.all m_mtc = true := by
    simp only [m_mt, List.all_append, m_mt_c_0, m_mt_c_1, m_mt_c_2, Bool.and_self]
  have h1 := List.all_eq_true.mp h _ (m_m_in k hk)
  unfold m_mtc at h1
  rw [Bool.or_eq_true, decide_eq_true_eq, decide_eq_true_eq] at h1
  have h2 : m_o k = (m_m k).1 := rfl
  rcases h1 with h1 | h1
  · omega
  · exact h1
theorem m_aw_ok : [Cond.arrayClass .int, .arrayClass .long].all (fun w => decide (w ∈ lw_tbl) && goodWord w) = true := by decide +kernel
theorem m_ao_ok : [Cond.arrayOver (.object "SnowHut$Guest"), .arrayOver (.array .int)].all (fun w => decide (w ∈ lw_tbl)) = true := by decide +kernel
