/-! a run of the little machine is a run of the machine: the contract of every method at once -/
theorem m_n_ok (k : Nat) (hk : k < m_law) : m_n k ≤ 19 := by
  have h : m_mt.all (fun e => decide (e.2.2.2.1 ≤ 19)) = true := by decide +kernel
  exact of_decide_eq_true (List.all_eq_true.mp h _ (m_m_in k hk))
def m_words (k : Nat) : List Cond := .code (m_y k) (m_b k) (m_n k) (m_r k) :: m_tb
def m_rm (d mc ms : Nat) : Room := { frames := d + 1, cells := mc, slots := ms, locals := 38 * (d + 1) }
theorem m_good : ∀ w ∈ m_tb, (w.onTables && w.keeps) = true ∨ ∃ ty, w = .arrayClass ty := fun w hw => good_of_word (List.mem_filter.mp hw).2
theorem m_words_good (k : Nat) (hk : k < m_law) : GoodIn m_tb (m_words k) := by
  intro w hw
  have h1 : w ∈ m_tb := by
    rcases List.mem_cons.mp hw with rfl | h
    · exact m_code_in k hk
    · exact h
  exact ⟨h1, m_good w h1⟩
theorem m_nw_kinds : ∀ w ∈ m_nw, (∃ a i x h, w = .methodLinkNest a i x h) ∨ (∃ a i b n d h, w = .fieldLinkNest a i b n d h) := by
  intro w hw
  simp only [m_nw, List.mem_cons, List.mem_nil_iff, or_false] at hw
  rcases hw with rfl | rfl | rfl | rfl | rfl | rfl | rfl | rfl | rfl | rfl <;> first | exact Or.inl ⟨_, _, _, _, rfl⟩ | exact Or.inr ⟨_, _, _, _, _, _, rfl⟩
theorem m_over_moved {u U : State} (hvm : u.vm.Alike U.vm) (h : (Cond.arrayOver (.array .int)).before #[] u = true) : (Cond.arrayOver (.array .int)).before #[] U = true := by
  have h0 := h
  simp only [Cond.before, Cond.holds, Cond.value, beq_iff_eq] at h0
  obtain ⟨comp, g1, h0⟩ := Option.bind_eq_some_iff.mp h0
  obtain ⟨cA, g2, h0⟩ := Option.bind_eq_some_iff.mp h0
  obtain ⟨kA, g3, g4⟩ := Option.map_eq_some_iff.mp h0
  obtain ⟨k', hk', he⟩ := hvm.2.2 _ _ g3
  have a1 := va_idx_bare U.vm comp
  have a2 := va_idx_bare u.vm comp
  have a3 : U.vm.bare = u.vm.bare := by first | exact hvm.bare_eq | exact hvm.bare_eq.symm
  rw [a3] at a1
  have hi := a1.symm.trans (a2.trans g2)
  have f1 : U.vm.findClass (FieldType.array .int).toString = some comp := by rw [hvm.findClass]; exact g1
  simp only [Cond.before, Cond.holds, Cond.value, beq_iff_eq]
  rw [f1, Option.bind_some]
  refine Option.bind_eq_some_iff.mpr ⟨cA, hi, Option.map_eq_some_iff.mpr ⟨k', hk', ?_⟩⟩
  have hkind : k'.kind = kA.kind := by rw [he]
  rw [hkind]
  cases hkk : kA.kind with
  | array component ty =>
    rw [hkk] at g4
    simp only [hvm.findClass]
    exact g4
  | _ => rw [hkk] at g4; exact g4
theorem m_NW_warm {s U : State} (hW : s.WarmedH U.vm) (h : m_NW s) : m_NW U := by
  refine ⟨fun w hw => ?_, va_AO.moved hW.alike h.2.1, m_over_moved hW.alike h.2.2⟩
  have h1 := h.1 w hw
  rcases m_nw_kinds w hw with ⟨a, i, x, b, rfl⟩ | ⟨a, i, b, n, d, g, rfl⟩
  · exact va_Nw.warmM hW h1
  · exact va_Nw.warmF hW h1
theorem m_EX_moved {X : List Int32} {ad : Nat → Nat} {A : Nat → Prop} {u U : State} {H : Heap} (hvm : u.vm.Alike U.vm) (h : m_EX X ad A u H) : m_EX X ad A U H :=
  ⟨fun e he => ⟨va_Z.moved hvm (h.1 e he).1, va_T.moved hvm (h.1 e he).2⟩, va_X.moved hvm h.2.1, h.2.2⟩
theorem m_EX_kept {X : List Int32} {ad : Nat → Nat} {A B : Nat → Prop} {U : State} {H H1 : Heap} (h : m_EX X ad A U H) (hs : H.size ≤ H1.size) (hq : ∀ a : Nat, a < H.size → ¬ A a → H1[a]? = H[a]?) (hAB : ∀ q, B q → A q) : m_EX X ad B U H1 :=
  ⟨fun e he => ⟨va_Z.narrow (va_Z.kept (h.1 e he).1 hq) hAB, va_T.narrow (va_T.kept (h.1 e he).2 hq) hAB⟩, va_X.kept h.2.1 (hq _ h.2.2.1 h.2.2.2), Nat.lt_of_lt_of_le h.2.2.1 hs, fun z => h.2.2.2 (hAB _ z)⟩
theorem m_EX_ad {X : List Int32} {ad ad' : Nat → Nat} {A : Nat → Prop} {U : State} {H : Heap} (h : m_EX X ad A U H) (he : ∀ a, 1000 ≤ a → ad' a = ad a) : m_EX X ad' A U H := by
  refine ⟨fun e hm => ?_, ?_, ?_, ?_⟩
  · rw [he _ (m_sx_big e hm)]
    exact h.1 e hm
  · rw [he 1000 (Nat.le_refl _)]
    exact h.2.1
  · rw [he 1000 (Nat.le_refl _)]
    exact h.2.2.1
  · rw [he 1000 (Nat.le_refl _)]
    exact h.2.2.2
/-- the world as a callee finds it -/
def m_W0 (X : List Int32) (D : va_G) (dA : Nat → ClassId) (ad : Nat → Nat) (h : m_H) (U : State) : Prop :=
  va_P D m_cl (m_ws dA ad h) U.heap ∧ va_K D m_cl (m_tys dA) U ∧ va_D (fun _ => True) (m_ws dA ad h) ∧ m_NW U ∧ m_EX X ad (va_A (m_ws dA ad h) U.heap.size) U U.heap ∧ h.length ≤ 1000
/-- and as it leaves it -/
def m_B (D : va_G) (dA : Nat → ClassId) (ad : Nat → Nat) (h h' : m_H) (A : Nat → Prop) (ad' : Nat → Nat) (t : State) : Prop :=
  (∀ a : Nat, a < h.length ∨ h'.length ≤ a → ad' a = ad a) ∧ va_P D m_cl (m_ws dA ad' h') t.heap ∧ va_D A (m_ws dA ad' h') ∧ h'.length ≤ 1000
def m_Qc (v : Option Value) (B : (Nat → Nat) → State → Prop) (A : Nat → Prop) : Array Value → State → Outcome → State → Prop := match v with
  | none => va_Qv (S := Nat → Nat) (fun _ => True) B A
  | some (.int x) => va_Qi (S := Nat → Nat) (fun r _ => r = x) B A
  | some (.long x) => va_Ql (S := Nat → Nat) (fun r _ => r = x) B A
  | some (.ref k) => va_Qr (S := Nat → Nat) (fun _ => True) (fun ad' a t => a = ad' k ∧ B ad' t) A
  | _ => fun _ _ _ _ => False
/-- the contract of a method at one run -/
def m_Mt (l : Launch) (X : List Int32) (D : va_G) (dA : Nat → ClassId) (d k : Nat) (As : List Value) (ad : Nat → Nat) (h : m_H) (v : Option Value) (h' : m_H) (sz : Nat) : Prop :=
  Met l (m_y k) (m_words k) (m_rm d (h'.length - h.length) (m_sl h' - m_sl h)) (va_Pc (As.map (m_cv ad)) (fun U => U.heap.size = sz ∧ m_W0 X D dA ad h U))
    (m_Qc v (m_B D dA ad h h' (va_A (m_ws dA ad h) sz)) (va_A (m_ws dA ad h) sz)) (h'.length - h.length) (m_sl h' - m_sl h) (va_A (m_ws dA ad h) sz)
/-- what comes behind the end of a run -/
def m_RR (p : Program) (l : Launch) (e : Env) (R : Room) (s : State) (m : MethodId) (args : Array Value) (below : List Frame) (meth : Method) (c : Code) (Q : State → Prop) (D : va_G) (dA : Nat → ClassId) (A : Nat → Prop) (ad0 : Nat → Nat) (N0 S0 k : Nat) (v : Option Value) (h' : m_H) : Prop :=
  ∀ (i : Instr) (pc : Nat) (st : List Value) (ad : Nat → Nat) (H : Heap) (locs : List Loc) (cells slots : Nat) (ls : Array Slot), decode (m_b k) pc = .ok (i, 1) → m_ret k i st = some v → m_I D dA A s ad0 ad N0 S0 h' H locs cells slots →
    W p l e R s m args below meth c H locs cells slots Q (F0 m pc ls (st.map (m_cv ad)))
/-- the body of a method, at a run of n steps -/
def m_BD (l : Launch) (X : List Int32) (n : Nat) : Prop :=
  ∀ (p : Program) (e : Env) (R : Room) (s : State) (m : MethodId) (args : Array Value) (below : List Frame) (meth : Method) (c : Code) (Q : State → Prop) (D : va_G) (dA : Nat → ClassId) (A : Nat → Prop) (ad0 ad : Nat → Nat) (N0 S0 d k pc : Nat) (L : m_L) (st : List Value) (h : m_H) (v : Option Value) (h' : m_H) (H : Heap) (locs : List Loc) (cells slots : Nat) (ls : Array Slot),
    m_C k X p R s m args meth c D dA A ad0 → m_I D dA A s ad0 ad N0 S0 h H locs cells slots → m_lo ls (m_n k) L ad → h'.length ≤ R.cells + N0 ∧ m_sl h' ≤ R.slots + S0 → d + 1 ≤ R.frames ∧ 38 * (d + 1) ≤ R.locals →
    m_run X n d k pc L st h = some (v, h') → m_RR p l e R s m args below meth c Q D dA A ad0 N0 S0 k v h' → W p l e R s m args below meth c H locs cells slots Q (F0 m pc ls (st.map (m_cv ad)))
theorem m_lay_len (vs : List Value) : (m_lay vs).length = (lg_sl vs).length := by
  induction vs with
  | nil => rfl
  | cons v vs ih =>
    unfold m_lay lg_sl
    rw [List.flatMap_cons, List.length_append]
    split
    · rw [List.length_cons, List.length_cons, ih]
      show _ = 2 + (lg_sl vs).length
      omega
    · rw [List.length_cons, ih]
      show _ = 1 + (lg_sl vs).length
      omega
theorem m_lg_cv (ad : Nat → Nat) (vs : List Value) : (lg_sl (vs.map (m_cv ad))).length = (lg_sl vs).length := by
  rw [← m_lay_len, ← m_lay_len]
  induction vs with
  | nil => rfl
  | cons v vs ih =>
    rw [List.map_cons]
    unfold m_lay
    rw [m_cv_cat]
    split
    · rw [List.length_cons, List.length_cons, List.length_cons, List.length_cons, ih]
    · rw [List.length_cons, List.length_cons, ih]
theorem m_lay_args {ad : Nat → Nat} : ∀ (vs : List Value) (o i : Nat) (v : Value), (m_lay vs)[i]? = some (some v) → (o + i, m_cv ad v) ∈ lv_args o (vs.map (m_cv ad))
  | [], o, i, v, h => by cases h
  | w :: vs, o, i, v, h => by
    rw [List.map_cons]
    unfold lv_args
    unfold m_lay at h
    rw [m_cv_cat]
    by_cases hc : w.category = 2
    · rw [if_pos hc] at h ⊢
      match i, h with
      | 0, h =>
        cases h
        exact List.mem_cons_self
      | 1, h => cases h
      | i + 2, h =>
        have := m_lay_args (ad := ad) vs (o + 2) i v h
        rw [show o + (i + 2) = o + 2 + i by omega]
        exact List.mem_cons_of_mem _ this
    · rw [if_neg hc] at h ⊢
      match i, h with
      | 0, h =>
        cases h
        exact List.mem_cons_self
      | i + 1, h =>
        have := m_lay_args (ad := ad) vs (o + 1) i v h
        rw [show o + (i + 1) = o + 1 + i by omega]
        exact List.mem_cons_of_mem _ this
theorem m_lo_entry {k : Nat} {As : List Value} {ad : Nat → Nat} (hl : (m_lay As).length ≤ m_n k) : m_lo ((lg_sl (As.map (m_cv ad)) ++ List.replicate (m_n k - (lg_sl (As.map (m_cv ad))).length) Slot.unset).toArray) (m_n k) (m_ent k As) ad := by
  have hlen : (lg_sl (As.map (m_cv ad))).length ≤ m_n k := by rw [m_lg_cv, ← m_lay_len]; exact hl
  obtain ⟨h1, h2, h3⟩ := lv_entry (As.map (m_cv ad)) (n := m_n k) hlen
  refine ⟨h1, h2, ?_, fun i v hv => ?_⟩
  · unfold m_ent
    rw [List.length_append, List.length_replicate]
    omega
  · unfold m_ent at hv
    rcases Nat.lt_or_ge i (m_lay As).length with hi | hi
    · rw [List.getElem?_append_left hi] at hv
      have := m_lay_args (ad := ad) As 0 i v hv
      rw [Nat.zero_add] at this
      exact h3 _ this
    · rw [List.getElem?_append_right hi, List.getElem?_replicate] at hv
      split at hv <;> cases hv
theorem m_len1 {i : Instr} {len k : Nat} {st : List Value} {v : Option Value} (h : m_ret k i st = some v) : m_ln i len = 1 := by
  cases i <;> first | rfl | cases h
theorem m_W0_blind {X : List Int32} {D : va_G} {dA : Nat → ClassId} {ad : Nat → Nat} {h : m_H} {av : List Value} {sz : Nat} : FrameBlind (va_Pc av (fun U => U.heap.size = sz ∧ m_W0 X D dA ad h U)) := by
  intro a U g mk ⟨h1, h2, hP, hK, hD, hN, hE, hl⟩
  have hvm : U.vm.Alike (U.calling g mk a).vm := Vm.Alike.refl U.vm
  exact ⟨h1, h2, hP, va_K.moved (u := U) (U := U.calling g mk a) hvm hK, hD, m_NW_warm (s := U) (U := U.calling g mk a) (State.WarmedH.refl U) hN, m_EX_moved (u := U) (U := U.calling g mk a) hvm hE, hl⟩
theorem m_Mt_of {l : Launch} {X : List Int32} (hX : X.length < 2 ^ 31) {n : Nat} (hB : m_BD l X n) {D : va_G} {dA : Nat → ClassId} {d k : Nat} {As : List Value} {ad : Nat → Nat} {h : m_H} {v : Option Value} {h' : m_H} (hk : k < m_law) (ho : m_o k < 8) (hlay : (m_lay As).length ≤ m_n k)
    (hrun : m_run X n d k 0 (m_ent k As) [] h = some (v, h')) (sz : Nat) : m_Mt l X D dA d k As ad h v h' sz := by
  have hcls := m_mt_cn k hk ho
  have hpl : plainName (m_y k).cls = true := by rw [hcls]; exact List.all_eq_true.mp m_cn_plain _ (List.mem_range.mpr ho)
  have hmono := m_run_h _ _ _ _ _ _ _ _ _ hrun
  refine Met.ofW (cc := m_b k) (maxL := m_n k) (ret := m_r k) hpl rfl ?_
  intro p e s m args below meth c s₁ B hml hv
  obtain ⟨rfl, hsz, hP, hK, hD0, hNW, hEX, hlen⟩ := hv
  have hts0 := atoms_spec (ws := m_words k) B.pre
  subst hsz
  have hD := hD0.self (sz := s.heap.size)
  have hin : meth.name = (m_y k).name := (name_of_methodNamed B.named B.method).1
  have hown : s.vm.findClass (m_cn (m_o k)) = some m.cls := by rw [← hcls]; exact findClass_of_methodNamed B.named
  have hr := B.returns
  rw [lg_entry_eq]
  refine hB p e _ s m _ below meth c _ D dA (va_A (m_ws dA ad h) s.heap.size) ad ad h.length (m_sl h) d k 0 (m_ent k As) [] h v h' s.heap [] 0 0 _ ⟨B.exec, B.bytes, hml, hown, fun w hw => hts0 w (List.mem_cons_of_mem _ hw), hNW, hK, fun q hq => Or.inr hq, hEX, hin, ?_, ?_, hX⟩ ⟨hP, hD, va_S.rf, Nat.zero_add _, Nat.zero_add _, fun _ _ => rfl, hlen⟩ (m_lo_entry hlay) ?_ ?_ hrun ?_
  · show 1 ≤ d + 1
    omega
  · show 38 ≤ 38 * (d + 1)
    omega
  · show h'.length ≤ (h'.length - h.length) + h.length ∧ m_sl h' ≤ (m_sl h' - m_sl h) + m_sl h
    omega
  · exact ⟨Nat.le_refl _, Nat.le_refl _⟩
  · intro i pc st ad' H locs cells slots ls hd hret I
    have hx := B.exec
    have hb := B.bytes
    have hlocks := B.notSynchronized
    obtain ⟨iP, iD, iS, i4, i5, i6, i7⟩ := I
    obtain rfl : cells = h'.length - h.length := by omega
    obtain rfl : slots = m_sl h' - m_sl h := by omega
    have fin : ∀ t : State, t.heap = H → m_B D dA ad h h' (va_A (m_ws dA ad h) s.heap.size) ad' t := fun t ht => ⟨i6, by rw [ht]; exact iP, iD, i7⟩
    cases i
    all_goals first | (cases hret; done) | skip
    case ireturn =>
      unfold m_ret at hret
      dsimp only at hret
      split at hret
      · next x =>
        split at hret
        · next hok =>
          cases hret
          unfold m_rok at hok
          split at hok
          · next ty hty =>
            exact W.zret (ty := ty) (v := x) hx hb (hr.trans hty) (of_decide_eq_true hok) (fun t ht hW => ⟨⟨x, ad', rfl, rfl, fin t ht⟩, iS.F ht⟩) iS.2.2 hd
          · cases hok
        · cases hret
      · cases hret
    case lreturn =>
      unfold m_ret at hret
      dsimp only at hret
      split at hret
      · next x =>
        split at hret
        · next hok =>
          cases hret
          exact W.lret (v := x) hx hb (hr.trans hok) (fun t ht hW => ⟨⟨x, ad', rfl, rfl, fin t ht⟩, iS.F ht⟩) iS.2.2 hd
        · cases hret
      · cases hret
    case areturn =>
      unfold m_ret at hret
      dsimp only at hret
      split at hret
      · next a =>
        split at hret
        · next hok =>
          cases hret
          unfold m_rob at hok
          split at hok
          · next cn hty =>
            exact W.aret (v := .ref (ad' a)) (rt := .object cn) hx hb (hr.trans hty) (Or.inl ⟨cn, rfl⟩) (Or.inr ⟨ad' a, rfl⟩) (fun t ht hW => ⟨⟨ad', ad' a, rfl, trivial, rfl, fin t ht⟩, iS.F ht⟩) iS.2.2 hd
          · cases hok
        · cases hret
      · cases hret
    case return_ =>
      unfold m_ret at hret
      dsimp only at hret
      split at hret
      · split at hret
        · next hok =>
          cases hret
          exact W.vret hx hb (hr.trans hok) (fun t ht hW => ⟨⟨ad', rfl, trivial, fin t ht⟩, iS.F ht⟩) iS.2.2 hd
        · cases hret
      · cases hret
