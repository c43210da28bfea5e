/-! what a state of the little machine is in the machine: cells, locals, and what a method may take as given -/
def m_cv (ad : Nat → Nat) (v : Value) : Value := match v with
  | .ref a => .ref (ad a)
  | v => v
theorem m_cv_cat (ad : Nat → Nat) (v : Value) : (m_cv ad v).category = v.category := by cases v <;> rfl
def m_toI (v : Value) : Int32 := match v with
  | .int x => x
  | _ => 0
def m_toL (v : Value) : Int64 := match v with
  | .long x => x
  | _ => 0
def m_toR (v : Value) : Option Nat := match v with
  | .ref a => some a
  | _ => none
def m_ent1 (dA : Nat → ClassId) (ad : Nat → Nat) (c : Nat × List Value) : va_E :=
  if c.1 = 20 then .inl (dA 20, c.2.length, .inl (fun j => m_toI (c.2.getD j .null)))
  else if c.1 = 21 then .inl (dA 21, c.2.length, .inr (.inl (fun j => m_toL (c.2.getD j .null))))
  else if c.1 = 22 then .inl (dA 22, c.2.length, .inl (fun j => m_toI (c.2.getD j .null)))
  else if c.1 = 23 then .inl (dA 23, c.2.length, .inr (.inr (.inr (.inr (fun j => (m_toR (c.2.getD j .null)).map ad)))))
  else if c.1 = 24 then .inl (dA 24, c.2.length, .inr (.inr (.inr (.inr (fun j => (m_toR (c.2.getD j .null)).map ad)))))
  else .inr (c.1, c.2.map (m_cv ad))
def m_ws (dA : Nat → ClassId) (ad : Nat → Nat) (h : m_H) : va_W := h.mapIdx (fun k c => (ad k, m_ent1 dA ad c))
theorem m_ws_at {dA : Nat → ClassId} {ad : Nat → Nat} {h : m_H} {a : Nat} {c : Nat × List Value} (e : h[a]? = some c) : (m_ws dA ad h)[a]? = some (ad a, m_ent1 dA ad c) := by
  unfold m_ws
  rw [List.getElem?_mapIdx, e]
  rfl
theorem m_ws_set {dA : Nat → ClassId} {ad : Nat → Nat} {h : m_H} {a : Nat} {c : Nat × List Value} : m_ws dA ad (h.set a c) = (m_ws dA ad h).set a (ad a, m_ent1 dA ad c) := by
  apply List.ext_getElem?
  intro i
  unfold m_ws
  rw [List.getElem?_mapIdx, List.getElem?_set, List.getElem?_set, List.getElem?_mapIdx, List.length_mapIdx]
  by_cases e : a = i
  · subst e
    by_cases hl : a < h.length
    · simp [hl]
    · simp [hl]
  · simp [e]
theorem m_ws_app {dA : Nat → ClassId} {ad : Nat → Nat} {h : m_H} {c : Nat × List Value} : m_ws dA ad (h ++ [c]) = m_ws dA ad h ++ [(ad h.length, m_ent1 dA ad c)] := by
  unfold m_ws
  rw [List.mapIdx_append]
  simp
theorem m_ws_len {dA : Nat → ClassId} {ad : Nat → Nat} {h : m_H} : (m_ws dA ad h).length = h.length := by
  unfold m_ws
  exact List.length_mapIdx
def m_tys (dA : Nat → ClassId) : List (ClassId × FieldType) := [(dA 20, .int), (dA 21, .long), (dA 22, .int), (dA 23, .object "SnowHut$Guest"), (dA 24, .array .int)]
def m_sl (h : m_H) : Nat := (h.map (fun c => c.2.length)).sum
/-- arrays that nobody writes -/
def m_EX (X : List Int32) (ad : Nat → Nat) (A : Nat → Prop) (U : State) (H : Heap) : Prop :=
  (∀ e ∈ m_sx, va_Z "SnowHut" e.2.1 "[I" (.ref (ad e.1)) A U H ∧ va_T .int (ad e.1) e.2.2.length (fun j => .int (e.2.2.getD j 0)) A U H) ∧
  va_X (ad 1000) X.length (fun j => X.getD j 0) U H ∧ ad 1000 < H.size ∧ ¬ A (ad 1000)
/-- words of nest mates, and of arrays of references -/
def m_NW (U : State) : Prop := (∀ w ∈ m_nw, va_Nw w U) ∧ va_AO "SnowHut$Guest" U ∧ (Cond.arrayOver (.array .int)).before #[] U = true
/-- what a method takes as given -/
def m_C (k : Nat) (X : List Int32) (p : Program) (R : Room) (s : State) (m : MethodId) (args : Array Value) (meth : Method) (c : Code) (D : va_G) (dA : Nat → ClassId) (A : Nat → Prop) (ad0 : Nat → Nat) : Prop :=
  p.tables.exec = Jvm.exec ∧ c.code = m_b k ∧ c.maxLocals = m_n k ∧ s.vm.findClass (m_cn (m_o k)) = some m.cls ∧ (∀ w ∈ m_tb, w.before args s = true) ∧ m_NW s ∧ va_K D m_cl (m_tys dA) s ∧
  (∀ q : Nat, s.heap.size ≤ q → A q) ∧ m_EX X ad0 A s s.heap ∧ meth.name = (m_y k).name ∧ 1 ≤ R.frames ∧ 38 ≤ R.locals ∧ X.length < 2 ^ 31
/-- the world, and the frame -/
def m_I (D : va_G) (dA : Nat → ClassId) (A : Nat → Prop) (s : State) (ad0 ad : Nat → Nat) (N0 S0 : Nat) (h : m_H) (H : Heap) (locs : List Loc) (cells slots : Nat) : Prop :=
  va_P D m_cl (m_ws dA ad h) H ∧ va_D A (m_ws dA ad h) ∧ va_S A s.heap H locs ∧ cells + N0 = h.length ∧ slots + S0 = m_sl h ∧ (∀ a : Nat, a < N0 ∨ h.length ≤ a → ad a = ad0 a) ∧ h.length ≤ 1000
theorem m_I_big {D : va_G} {dA : Nat → ClassId} {A : Nat → Prop} {s : State} {ad0 ad : Nat → Nat} {N0 S0 : Nat} {h : m_H} {H : Heap} {locs : List Loc} {cells slots a : Nat} (I : m_I D dA A s ad0 ad N0 S0 h H locs cells slots) (ha : 1000 ≤ a) : ad a = ad0 a := I.2.2.2.2.2.1 a (Or.inr (Nat.le_trans I.2.2.2.2.2.2 ha))
def m_lo (ls : Array Slot) (nL : Nat) (L : m_L) (ad : Nat → Nat) : Prop := ls.size = nL ∧ lv_wf ls ∧ L.length = nL ∧ ∀ (i : Nat) (v : Value), L[i]? = some (some v) → ls[i]? = some (.val (m_cv ad v))
-- ----- locals -----
def m_prs (L : m_L) (ad : Nat → Nat) : List (Nat × Value) := (List.range L.length).filterMap (fun i => match L[i]? with
  | some (some v) => some (i, m_cv ad v)
  | _ => none)
theorem m_prs_in {L : m_L} {ad : Nat → Nat} {i : Nat} {v : Value} (h : L[i]? = some (some v)) : (i, m_cv ad v) ∈ m_prs L ad := by
  unfold m_prs
  refine List.mem_filterMap.mpr ⟨i, List.mem_range.mpr (List.getElem?_eq_some_iff.mp h).1, ?_⟩
  rw [h]
theorem m_prs_of {L : m_L} {ad : Nat → Nat} {q : Nat × Value} (h : q ∈ m_prs L ad) : ∃ v, L[q.1]? = some (some v) ∧ q.2 = m_cv ad v := by
  unfold m_prs at h
  obtain ⟨i, -, e⟩ := List.mem_filterMap.mp h
  split at e
  · next v hv =>
    cases e
    exact ⟨v, hv, rfl⟩
  · cases e
theorem m_lo_has {ls : Array Slot} {nL : Nat} {L : m_L} {ad : Nat → Nat} (h : m_lo ls nL L ad) : lv_has ls nL (m_prs L ad) := by
  refine ⟨h.1, h.2.1, fun q hq => ?_⟩
  obtain ⟨v, h1, h2⟩ := m_prs_of hq
  rw [h2]
  exact h.2.2.2 _ _ h1
theorem m_clr_len (L : m_L) (i : Nat) : (m_clr L i).length = L.length := by
  unfold m_clr
  split
  · rfl
  · split
    · split
      · rw [List.length_set]
      · rfl
    · rfl
theorem m_clr_at {L : m_L} {i j : Nat} {v : Value} (h : (m_clr L i)[j]? = some (some v)) : L[j]? = some (some v) ∧ ¬ (j + 1 = i ∧ v.category = 2) := by
  unfold m_clr at h
  split at h
  · exact ⟨h, by omega⟩
  · next z =>
    split at h
    · next w hw =>
      split at h
      · next hc =>
        rw [List.getElem?_set] at h
        split at h
        · split at h
          · cases h
          · cases h
        · next hne => exact ⟨h, fun q => hne (by omega)⟩
      · next hc =>
        refine ⟨h, fun q => hc ?_⟩
        obtain rfl : j = z := by omega
        rw [h] at hw
        cases hw
        exact q.2
    · next hw =>
      refine ⟨h, fun q => ?_⟩
      obtain rfl : j = z := by omega
      exact hw _ h
theorem m_lo_st1 {ls ls' : Array Slot} {nL : Nat} {L : m_L} {ad : Nat → Nat} {i : Nat} {v : Value} (h : m_lo ls nL L ad) (h' : lv_has ls' nL ((i, m_cv ad v) :: (m_prs L ad).filter (fun q => !(q.1 == i) && !(q.1 + 1 == i && q.2.category == 2)))) : m_lo ls' nL (m_st1 L i v) ad := by
  obtain ⟨e1, e2, e3⟩ := h'
  refine ⟨e1, e2, ?_, fun j w hj => ?_⟩
  · unfold m_st1
    rw [List.length_set, m_clr_len]
    exact h.2.2.1
  · unfold m_st1 at hj
    rw [List.getElem?_set] at hj
    split at hj
    · next hij =>
      subst hij
      split at hj
      · cases hj
        exact e3 _ List.mem_cons_self
      · cases hj
    · next hij =>
      obtain ⟨hj, hc⟩ := m_clr_at hj
      refine e3 (j, m_cv ad w) (List.mem_cons_of_mem _ (List.mem_filter.mpr ⟨m_prs_in hj, ?_⟩))
      rw [m_cv_cat]
      simp only [Bool.and_eq_true, Bool.not_eq_true', beq_eq_false_iff_ne, ne_eq, Bool.and_eq_false_iff]
      refine ⟨fun q => hij q.symm, ?_⟩
      by_cases z : j + 1 = i
      · exact Or.inr (fun q => hc ⟨z, q⟩)
      · exact Or.inl z
theorem m_lo_st2 {ls ls' : Array Slot} {nL : Nat} {L : m_L} {ad : Nat → Nat} {i : Nat} {v : Value} (h : m_lo ls nL L ad) (h' : lv_has ls' nL ((i, m_cv ad v) :: (m_prs L ad).filter (fun q => !(q.1 == i) && (!(q.1 == i + 1) && !(q.1 + 1 == i && q.2.category == 2))))) : m_lo ls' nL (m_st2 L i v) ad := by
  obtain ⟨e1, e2, e3⟩ := h'
  refine ⟨e1, e2, ?_, fun j w hj => ?_⟩
  · unfold m_st2
    rw [List.length_set, List.length_set, m_clr_len]
    exact h.2.2.1
  · unfold m_st2 at hj
    rw [List.getElem?_set] at hj
    split at hj
    · next hij1 =>
      split at hj
      · cases hj
      · cases hj
    · next hij1 =>
      rw [List.getElem?_set] at hj
      split at hj
      · next hij =>
        subst hij
        split at hj
        · cases hj
          exact e3 _ List.mem_cons_self
        · cases hj
      · next hij =>
        obtain ⟨hj, hc⟩ := m_clr_at hj
        refine e3 (j, m_cv ad w) (List.mem_cons_of_mem _ (List.mem_filter.mpr ⟨m_prs_in hj, ?_⟩))
        rw [m_cv_cat]
        simp only [Bool.and_eq_true, Bool.not_eq_true', beq_eq_false_iff_ne, ne_eq, Bool.and_eq_false_iff]
        refine ⟨fun q => hij q.symm, fun q => hij1 q.symm, ?_⟩
        by_cases z : j + 1 = i
        · exact Or.inr (fun q => hc ⟨z, q⟩)
        · exact Or.inl z
theorem m_lo_ext {ls : Array Slot} {nL : Nat} {L : m_L} {ad ad' : Nat → Nat} (h : m_lo ls nL L ad) (he : ∀ (i : Nat) (v : Value), L[i]? = some (some v) → m_cv ad' v = m_cv ad v) : m_lo ls nL L ad' :=
  ⟨h.1, h.2.1, h.2.2.1, fun i v hv => by rw [he i v hv]; exact h.2.2.2 i v hv⟩
-- ----- the tables' checks, used -----
theorem m_lookup {α β : Type} [BEq α] [LawfulBEq α] {l : List (α × β)} {k : α} {v : β} (h : l.lookup k = some v) : (k, v) ∈ l := by
  induction l with
  | nil => cases h
  | cons x l ih =>
    obtain ⟨a, b⟩ := x
    rw [List.lookup_cons] at h
    split at h
    · next e =>
      cases h
      rw [eq_of_beq e]
      exact List.mem_cons_self
    · exact List.mem_cons_of_mem _ (ih h)
theorem m_k32_use {o ix : Nat} {e : Int32 × Nat} (h : m_k32.lookup (o, ix) = some e) : Cond.constant (m_cn o) ix e.1 ∈ m_tb := m_has_mem (List.all_eq_true.mp m_k32_ok _ (m_lookup h))
theorem m_k64_use {o ix : Nat} {e : Int64 × Nat} (h : m_k64.lookup (o, ix) = some e) : Cond.constantLong (m_cn o) ix e.1 ∈ m_tb := m_has_mem (List.all_eq_true.mp m_k64_ok _ (m_lookup h))
