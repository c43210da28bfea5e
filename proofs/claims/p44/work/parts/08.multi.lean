/-! new T[n][m] (over the library's row of it), and the step as a whole -/
theorem m_ml_use {o ix : Nat} (h : (m_ml.lookup (o, ix)).isSome = true) : Cond.classLink (m_cn o) ix "[[I" ∈ m_tb := by
  obtain ⟨w, hw⟩ := Option.isSome_iff_exists.mp h
  exact m_has_mem (List.all_eq_true.mp m_ml_ok _ (m_lookup hw))
theorem m_outer (c : ClassId) (N h0 : Nat) : ∀ i : Nat, Jvm.Free.Multi.outerC c N h0 i = arrV c N (fun j => if j < i then .ref (h0 + 1 + j) else .null)
  | 0 => by
    show ({ cls := c, slots := Array.replicate N .null, vm := .none } : Cell) = _
    rw [arrV_new]
    refine congrArg (arrV c N) (funext fun j => ?_)
    rw [if_neg (Nat.not_lt_zero j)]
  | i + 1 => by
    show (Jvm.Free.Multi.outerC c N h0 i).setSlot i (.ref (h0 + 1 + i)) = _
    rw [m_outer c N h0 i, arrV_store]
    refine congrArg (arrV c N) (funext fun j => ?_)
    unfold updV
    by_cases e : j = i
    · subst e
      rw [if_pos rfl, if_pos (Nat.lt_succ_self j)]
    · rw [if_neg e]
      by_cases h : j < i
      · rw [if_pos (Nat.lt_succ_of_lt h)]
        exact if_pos h
      · rw [if_neg (show ¬ j < i + 1 by omega)]
        exact if_neg h
theorem m_arrV_ext {c : ClassId} {N : Nat} {f g : Nat → Value} (h : ∀ j, j < N → f j = g j) : arrV c N f = arrV c N g := by
  have e : (fun j : Fin N => f j.val) = fun j : Fin N => g j.val := funext fun j => h j.val j.isLt
  unfold arrV
  rw [e]
section MSM
variable {p : Program} {l : Launch} {e : Env} {R : Room} {s : State} {m : MethodId} {args : Array Value} {below : List Frame} {meth : Method} {c : Code} {H : Heap} {locs : List Loc} {cells slots : Nat} {Q : State → Prop}
variable {k pc len nL N0 S0 : Nat} {X : List Int32} {D : va_G} {dA : Nat → ClassId} {A : Nat → Prop} {ad0 ad : Nat → Nat} {L : m_L} {st : List Value} {h : m_H} {ls : Array Slot} {q : m_S}
theorem m_over_args {A1 A2 : Array Value} {U : State} (h : (Cond.arrayOver (.array .int)).before A1 U = true) : (Cond.arrayOver (.array .int)).before A2 U = true := h
theorem ms_multi {ix dims : Nat} (C : m_C k X p R s m args meth c D dA A ad0) (I : m_I D dA A s ad0 ad N0 S0 h H locs cells slots) (hl : m_lo ls (m_n k) L ad) (hR : q.2.2.2.length ≤ R.cells + N0 ∧ m_sl q.2.2.2 ≤ R.slots + S0) (hd : decode (m_b k) pc = .ok (.multianewarray ix dims, m_ln (.multianewarray ix dims) len)) (hs : m_sC k (.multianewarray ix dims) pc L st h = some q) (kk : m_KK p l e R s m args below meth c Q D dA A ad0 N0 S0 (m_n k) q) : W p l e R s m args below meth c H locs cells slots Q (F0 m pc ls (st.map (m_cv ad))) := by
  have hx := C.1
  have hb := C.2.1
  obtain ⟨n, z, r, rfl, e1⟩ := m_ii_s hs
  obtain ⟨hcond, e2⟩ := m_c_s e1
  clear e1 hs
  obtain ⟨rfl, hn, hz, hn2, hz2, hml, o1, o2, o3, o4⟩ := hcond
  have e3 := Option.some.inj e2
  subst e3
  have i4 := I.2.2.2.1
  have i5 := I.2.2.2.2.1
  have hsl : m_sl ((h ++ [(24, (List.range n.toNatClampNeg).map (fun i => Value.ref (h.length + 1 + i)))]) ++ List.replicate n.toNatClampNeg (20, List.replicate z.toNatClampNeg (.int 0))) = m_sl h + n.toNatClampNeg + n.toNatClampNeg * z.toNatClampNeg := by
    unfold m_sl
    simp [List.map_append, List.sum_append]
    omega
  have hlen : ((h ++ [(24, (List.range n.toNatClampNeg).map (fun i => Value.ref (h.length + 1 + i)))]) ++ List.replicate n.toNatClampNeg (20, List.replicate z.toNatClampNeg (Value.int 0))).length = h.length + 1 + n.toNatClampNeg := by
    simp
    omega
  dsimp only at hR
  rw [hsl, hlen] at hR
  intro T hT Xs
  have hover := C.2.2.2.2.2.1.2.2
  obtain ⟨vm₁, cA, comp, -, fA, fC, hO, hIn, X', step⟩ := Xs.multianewarray2F (ty := .int) hx C.2.2.2.1 (C.2.2.2.2.1 _ (m_ml_use hml)) (m_over_args hover) (C.2.2.2.2.1 _ (m_aw_use (by simp))) (g := F0 m pc ls (.int z :: .int n :: r.map (m_cv ad))) rfl (by rw [hb]; exact hd) (n := n) (k := z) (rest := r.map (m_cv ad)) rfl hn hz (by omega) (by show z.toNatClampNeg * 4 ≤ 536870912; omega) (by omega) rfl rfl (by omega) (by have hmm := hR.2; omega)
  have hA24 : cA = dA 24 := by
    have h1 : s.vm.findClass ("[" ++ (FieldType.array .int).toString) = some (dA 24) := (C.2.2.2.2.2.2.1.2 4 (dA 24, .array .int) rfl).2
    exact Option.some.inj (fA.symm.trans h1)
  have hA20 : comp = dA 20 := by
    have h1 : s.vm.findClass ("[" ++ FieldType.int.toString) = some (dA 20) := (C.2.2.2.2.2.2.1.2 0 (dA 20, .int) rfl).2
    have h2 : s.vm.findClass ("[" ++ FieldType.int.toString) = some comp := fC
    exact Option.some.inj (h2.symm.trans h1)
  subst hA24
  subst hA20
  generalize hF : Jvm.Free.Multi.fill (T.setVm vm₁) (dA 24) (dA 20) n.toNatClampNeg z.toNatClampNeg (defaultValue .int) n.toNatClampNeg = F at X' step
  have hTh : (T.setVm vm₁).heap = H := hT
  obtain ⟨f1, f2, -, -⟩ := Jvm.Free.Multi.fill_facts (T.setVm vm₁) (dA 24) (dA 20) n.toNatClampNeg z.toNatClampNeg (defaultValue .int) n.toNatClampNeg
  rw [hF, hTh] at f1 f2
  have hold : ∀ x : Nat, x < H.size → F.heap[x]? = H[x]? := fun x hx => by
    have := Jvm.Free.Multi.fill_old (T.setVm vm₁) (dA 24) (dA 20) n.toNatClampNeg z.toNatClampNeg (defaultValue .int) (a := x) (by rw [hTh]; exact hx) n.toNatClampNeg
    rw [hF, hTh] at this
    exact this
  have hrow : ∀ j : Nat, j < n.toNatClampNeg → F.heap[H.size + 1 + j]? = some (arrV (dA 20) z.toNatClampNeg (fun _ => .int 0)) := fun j hj => by
    have := Jvm.Free.Multi.fill_inner (T.setVm vm₁) (dA 24) (dA 20) n.toNatClampNeg z.toNatClampNeg (defaultValue .int) n.toNatClampNeg j hj
    rw [hF, hTh] at this
    rw [this, ← arrV_new]
    rfl
  rw [m_outer] at f2
  let ad' : Nat → Nat := fun a => if a < h.length ∨ h.length + 1 + n.toNatClampNeg ≤ a then ad a else H.size + (a - h.length)
  have hag : ∀ a : Nat, a < h.length ∨ h.length + 1 + n.toNatClampNeg ≤ a → ad' a = ad a := fun a ha => if_pos ha
  have hat : ∀ a : Nat, a ≤ n.toNatClampNeg → ad' (h.length + a) = H.size + a := fun a ha => by
    show (if _ then _ else _) = _
    rw [if_neg (by omega)]
    omega
  obtain ⟨hP, hD, hS, -, -, hbig, -⟩ := I
  have hlt : ∀ (k9 : Nat) (x : Nat × va_E), (m_ws dA ad h)[k9]? = some x → x.1 < H.size := fun k9 x hx => (hP k9 x hx).lt
  -- the cells behind it
  have hcell : ∀ (k9 : Nat) (x : Nat × va_E), (m_ws dA ad' ((h ++ [(24, (List.range n.toNatClampNeg).map (fun i => Value.ref (h.length + 1 + i)))]) ++ List.replicate n.toNatClampNeg (20, List.replicate z.toNatClampNeg (Value.int 0))))[k9]? = some x →
      ((m_ws dA ad h)[k9]? = some x ∧ k9 < h.length) ∨ (h.length ≤ k9 ∧ x.1 = H.size + (k9 - h.length) ∧ va_at D m_cl x F.heap) := by
    intro k9 x hx
    unfold m_ws at hx
    rw [List.getElem?_mapIdx] at hx
    rcases Nat.lt_or_ge k9 h.length with hk9 | hk9
    · refine Or.inl ⟨?_, hk9⟩
      rw [List.append_assoc, List.getElem?_append_left hk9] at hx
      have e9 := m_ext_ws (dA := dA) hag (Nat.le_refl _) o3
      rw [← e9]
      unfold m_ws
      rw [List.getElem?_mapIdx]
      exact hx
    · refine Or.inr ⟨hk9, ?_⟩
      rcases Nat.eq_or_lt_of_le hk9 with hk0 | hk1
      · have e0 : ((h ++ [(24, (List.range n.toNatClampNeg).map (fun i => Value.ref (h.length + 1 + i)))]) ++ List.replicate n.toNatClampNeg (20, List.replicate z.toNatClampNeg (Value.int 0)))[k9]? = some (24, (List.range n.toNatClampNeg).map (fun i => Value.ref (h.length + 1 + i))) := by
          rw [← hk0]
          simp
        rw [e0] at hx
        cases hx
        have ha0 := hat 0 (Nat.zero_le _)
        rw [Nat.add_zero, Nat.add_zero] at ha0
        refine ⟨by show ad' k9 = H.size + (k9 - h.length); rw [← hk0, ha0]; omega, ?_⟩
        show F.heap[ad' k9]? = some (vp_cell _ _)
        rw [← hk0, ha0, f2]
        congr 1
        show _ = vp_cell (dA 24) (_, .inr (.inr (.inr (.inr _))))
        rw [vp_cell_q, List.length_map, List.length_range]
        refine m_arrV_ext fun j hj => ?_
        rw [if_pos hj, List.getD_eq_getElem?_getD, List.getElem?_map, List.getElem?_range hj]
        show Value.ref (H.size + 1 + j) = Value.ref (ad' (h.length + 1 + j))
        rw [Nat.add_assoc h.length, hat (1 + j) (by omega), Nat.add_assoc]
      · have hk2 : k9 < h.length + 1 + n.toNatClampNeg := by
          have hq := (List.getElem?_eq_some_iff.mp (show (m_ws dA ad' ((h ++ [(24, (List.range n.toNatClampNeg).map (fun i => Value.ref (h.length + 1 + i)))]) ++ List.replicate n.toNatClampNeg (20, List.replicate z.toNatClampNeg (Value.int 0))))[k9]? = some x by unfold m_ws; rw [List.getElem?_mapIdx]; exact hx)).1
          rw [m_ws_len, hlen] at hq
          exact hq
        have e0 : ((h ++ [(24, (List.range n.toNatClampNeg).map (fun i => Value.ref (h.length + 1 + i)))]) ++ List.replicate n.toNatClampNeg (20, List.replicate z.toNatClampNeg (Value.int 0)))[k9]? = some (20, List.replicate z.toNatClampNeg (Value.int 0)) := by
          rw [List.getElem?_append_right (by simp; omega), List.getElem?_replicate, if_pos (by simp; omega)]
        rw [e0] at hx
        cases hx
        have ha0 := hat (k9 - h.length) (by omega)
        rw [show h.length + (k9 - h.length) = k9 by omega] at ha0
        refine ⟨ha0, ?_⟩
        show F.heap[ad' k9]? = some (vp_cell _ _)
        rw [ha0, show H.size + (k9 - h.length) = H.size + 1 + (k9 - h.length - 1) by omega, hrow _ (by omega)]
        congr 1
        show _ = vp_cell (dA 20) (_, .inl _)
        rw [vp_cell_i, List.length_replicate]
        refine m_arrV_ext fun j hj => ?_
        rw [List.getD_eq_getElem?_getD, List.getElem?_replicate, if_pos hj]
        rfl
  have kk' := kk ad' F.heap locs (cells + 1 + n.toNatClampNeg) (slots + n.toNatClampNeg + n.toNatClampNeg * z.toNatClampNeg) ls ⟨fun k9 x hx => ?_, ⟨fun i j x y hi hj hxy => ?_, fun k9 x hx => ?_⟩, ⟨Nat.le_trans hS.1 (by omega), fun x h1 h2 => (hold x (Nat.lt_of_lt_of_le h1 hS.1)).trans (hS.2.1 x h1 h2), hS.2.2⟩, by dsimp only; rw [hlen]; omega, by dsimp only; rw [hsl]; omega, fun k9 hk9 => by dsimp only at hk9; rw [hlen] at hk9; rw [hag k9 (by omega)]; exact hbig k9 (by omega), by dsimp only; rw [hlen]; exact o4⟩ (m_ext_lo hag o1 hl)
  · dsimp only at kk'
    rw [List.map_cons, m_ext_st hag o2] at kk'
    have hq0 : m_cv ad' (.ref h.length) = .ref H.size := by
      show Value.ref (ad' h.length) = _
      have := hat 0 (Nat.zero_le _)
      rw [Nat.add_zero, Nat.add_zero] at this
      rw [this]
    rw [hq0] at kk'
    obtain ⟨t, a1, b1⟩ := kk' F rfl X'
    refine ⟨t, step t ?_, b1⟩
    have e9 : T.heap.size = H.size := by rw [hT]
    rw [e9]
    exact a1
  · rcases hcell k9 x hx with ⟨h1, h2⟩ | ⟨-, -, h3⟩
    · exact (hP k9 x h1).kept (hold x.1 (hlt k9 x h1))
    · exact h3
  · rcases hcell i x hi with ⟨h1, h2⟩ | ⟨h1, h2, -⟩ <;> rcases hcell j y hj with ⟨h3, h4⟩ | ⟨h3, h4, -⟩
    · exact hD.1 i j x y h1 h3 hxy
    · have := hlt i x h1
      omega
    · have := hlt j y h3
      omega
    · omega
  · rcases hcell k9 x hx with ⟨h1, h2⟩ | ⟨h1, h2, -⟩
    · exact hD.2 k9 x h1
    · exact C.2.2.2.2.2.2.2.1 _ (by have := hS.1; omega)
theorem m_sC_ok {i : Instr} (C : m_C k X p R s m args meth c D dA A ad0) (I : m_I D dA A s ad0 ad N0 S0 h H locs cells slots) (hl : m_lo ls (m_n k) L ad) (hR : q.2.2.2.length ≤ R.cells + N0 ∧ m_sl q.2.2.2 ≤ R.slots + S0) (hd : decode (m_b k) pc = .ok (i, m_ln i len)) (hs : m_sC k i pc L st h = some q) (kk : m_KK p l e R s m args below meth c Q D dA A ad0 N0 S0 (m_n k) q) : W p l e R s m args below meth c H locs cells slots Q (F0 m pc ls (st.map (m_cv ad))) := by
  cases i with
  | new _ => exact ms_new C I hl hR hd hs kk
  | newarray _ => exact ms_newarray C I hl hR hd hs kk
  | anewarray _ => exact ms_anewarray C I hl hR hd hs kk
  | multianewarray _ _ => exact ms_multi C I hl hR hd hs kk
  | invokespecial _ => exact ms_objInit C I hl hd hs kk
  | invokestatic _ => exact ms_static C I hl hR hd hs kk
  | _ => cases hs
theorem m_step_ok {i : Instr} (C : m_C k X p R s m args meth c D dA A ad0) (I : m_I D dA A s ad0 ad N0 S0 h H locs cells slots) (hl : m_lo ls (m_n k) L ad) (hR : q.2.2.2.length ≤ R.cells + N0 ∧ m_sl q.2.2.2 ≤ R.slots + S0) (hd : decode (m_b k) pc = .ok (i, m_ln i len)) (hs : m_step X k i pc L st h = some q) (kk : m_KK p l e R s m args below meth c Q D dA A ad0 N0 S0 (m_n k) q) : W p l e R s m args below meth c H locs cells slots Q (F0 m pc ls (st.map (m_cv ad))) := by
  unfold m_step at hs
  split at hs
  · next q0 hq0 =>
    cases hs
    exact m_sA_ok C I hl hd hq0 kk
  · split at hs
    · next q0 hq0 =>
      cases hs
      exact m_sB_ok C I hl hd hq0 kk
    · exact m_sC_ok C I hl hR hd hs kk
end MSM
