/-! FROM THE CLAIM TO THE LITTLE MACHINE: what the Statement gives is what m_BD_all asks; so the claim follows from one run of the little machine. The first rows are the given skeleton's. -/
def R_law : String := "SnowHutLaw"
def lw_P (b : Addr) (xs : List Int32) (args : Array Value) (s : State) : Prop := args = #[.ref b] ∧ s.IntsAt b xs ∧ xs.length ≤ 260 ∧ (Jvm.Cond.and given_1 narrow_1).before args s = true
def lw_Q (_ : Array Value) (s : State) (o : Outcome) (t : State) : Prop := o = .returned (some (.int 1)) ∧ Framed s o t [] 600000 7302250
def lw_Z (below : List Frame) (a : Array Value) (s : State) : State → Prop := fun t => ∃ o, t.status = .running ∧ Ended t below o ∧ lw_Q a s o t
/-- the law's own end, with 1 on the stack, nothing written that was there before, its room as the claim has it -/
theorem lw_ret {p : Program} {l : Launch} {e : Env} {s : State} {m : MethodId} {below : List Frame} {meth : Method} {c : Code} {b : Nat} (hx : p.tables.exec = Jvm.exec) (hb : c.code = code) (hr : meth.sig.returnType = ret) (hlocks : meth.locks = false) {pc : Nat} {H : Heap} {ls : Array Slot} (hdg : decode code pc = .ok (.ireturn, 1)) : W p l e room_1 s m #[Value.ref b] below meth c H [] 600000 7302250 (lw_Z below #[Value.ref b] s) (F0 m pc ls [.int 1]) := by
  intro T hT X
  obtain ⟨fs, hret, hrun, hended, hW, hframe⟩ := X.leave (v := some (.int 1)) (hlocks := hlocks) (fun h => by rw [hr] at h; cases h)
  have hmeth' : T.vm.method? m = some meth := X.method'
  refine ⟨T.setFrames fs, ?_, .returned (some (.int 1)), hrun, hended, rfl, ⟨_, rfl⟩, hW, hframe⟩
  jvm_step X.here [X.here.top, hx, hb, hdg, hmeth', hr, ret, narrow_b1]
  (try refine ⟨rfl, ?_⟩); (try refine ⟨rfl, ?_⟩)
  first | (intro acts; rw [hret _ acts rfl rfl rfl]) | rw [hret _ _ rfl rfl rfl]
  exact Steps.refl _
/-- what holds at the law's entry: the machine, the code, the tables' words (any of lw_tbl by 'hts w (by decide +kernel)'), the script of L ints xs at the cell b, what the Statement gives of the start (any of its parts by flat_of_before) -/
def lw_At (p : Program) (s : State) (m : MethodId) (meth : Method) (c : Code) (b L : Nat) (xs : Nat → Int32) : Prop :=
  p.tables.exec = Jvm.exec ∧ c.code = code ∧ meth.sig.returnType = ret ∧ c.maxLocals = 20 ∧ s.vm.findClass R_law = some m.cls ∧ (∀ w ∈ lw_tbl, w.before #[Value.ref b] s = true) ∧ va_X b L xs s s.heap ∧ b < s.heap.size ∧ meth.locks = false ∧ meth.name = "law" ∧ (Jvm.Cond.and given_1 narrow_1).before #[Value.ref b] s = true
def m_dA (s : State) (t : Nat) : ClassId := match t with
  | 20 => (s.vm.findClass ("[" ++ FieldType.int.toString)).getD 0
  | 21 => (s.vm.findClass ("[" ++ FieldType.long.toString)).getD 0
  | 22 => (s.vm.findClass ("[" ++ FieldType.int.toString)).getD 0
  | 23 => (s.vm.findClass ("[" ++ (FieldType.object "SnowHut$Guest").toString)).getD 0
  | _ => (s.vm.findClass ("[" ++ (FieldType.array .int).toString)).getD 0
theorem m_arr_of {s : State} {cA : ClassId} {kA : Class} {comp : ClassId} {ty : FieldType} (h1 : s.vm.classes[cA]? = some kA) (h2 : kA.kind = .array comp ty) : ArrOfT s cA ty := fun n z => ⟨fun k h => (by cases h), kA, h1, comp, h2⟩
theorem m_ac_arr {s : State} {args : Array Value} {ty : FieldType} (h : (Cond.arrayClass ty).before args s = true) : ArrOfT s ((s.vm.findClass ("[" ++ ty.toString)).getD 0) ty ∧ s.vm.findClass ("[" ++ ty.toString) = some ((s.vm.findClass ("[" ++ ty.toString)).getD 0) := by
  obtain ⟨c, k, comp, h1, h2, h3⟩ := Cond.arrayClass_spec h
  rw [h1]
  exact ⟨m_arr_of h2 h3, rfl⟩
theorem m_K_start {s : State} {args : Array Value} (hts : ∀ w ∈ lw_tbl, w.before args s = true) : ∃ D : va_G, va_K D m_cl (m_tys (m_dA s)) s := by
  have hcl : ∀ k : Nat, ∃ q : ClassId × (Nat → Nat), ∀ c : vw_C, m_cl[k]? = some c → u_Kn s c.1 c.2.1 c.2.2 q.1 q.2 := by
    intro k
    cases hk : m_cl[k]? with
    | none => exact ⟨(0, fun _ => 0), fun c h => by cases h⟩
    | some c =>
      have hm := List.mem_of_getElem? hk
      have h1 := List.all_eq_true.mp m_cl_ok _ hm
      unfold m_clc at h1
      have hws : ∀ w ∈ u_ws c.1 c.2.1 c.2.2, w ∈ lw_tbl := by
        intro w hw
        simp only [Bool.and_eq_true] at h1
        have h2 := List.all_eq_true.mp h1.1 w hw
        simp only [Bool.and_eq_true, decide_eq_true_eq] at h2
        exact h2.1
      have hin : ∃ n, (Cond.instantiable c.1 n) ∈ lw_tbl := by
        have h3 : m_nl.any (fun e => decide ((m_cl[e.2.1]?).map (fun q => q.1) = some c.1)) = true := by
          have h4 : m_cl.all (fun c => m_nl.any (fun e => decide ((m_cl[e.2.1]?).map (fun q => q.1) = some c.1))) = true := by decide +kernel
          exact List.all_eq_true.mp h4 _ hm
        obtain ⟨e, he, h5⟩ := List.any_eq_true.mp h3
        have h6 := List.all_eq_true.mp m_nl_ok _ he
        unfold m_nlc at h6
        rw [decide_eq_true_eq] at h5
        split at h6
        · next C T N hC =>
          rw [hC] at h5
          simp only [Option.map_some, Option.some.injEq] at h5
          simp only [Bool.and_eq_true] at h6
          refine ⟨N, ?_⟩
          have h7 := m_has_mem h6.1.2
          rw [← h5]
          exact (List.mem_filter.mp h7).1
        · cases h6
      obtain ⟨n, hn⟩ := hin
      obtain ⟨cC, iS, hKn⟩ := u_known hts hws (hts _ hn)
      exact ⟨(cC, iS), fun c' h => by cases h; exact hKn⟩
  obtain ⟨f, hf⟩ := Classical.axiomOfChoice hcl
  refine ⟨(fun k => (f k).1, fun k => (f k).2), fun k q hq => hf k q hq, fun k q hq => ?_⟩
  have haw : ∀ w ∈ [Cond.arrayClass .int, .arrayClass .long], w.before args s = true := fun w hw => hts w (by
    have := List.all_eq_true.mp m_aw_ok w hw
    simp only [Bool.and_eq_true, decide_eq_true_eq] at this
    exact this.1)
  have hao : ∀ w ∈ [Cond.arrayOver (.object "SnowHut$Guest"), .arrayOver (.array .int)], w.before args s = true := fun w hw => hts w (by
    have := List.all_eq_true.mp m_ao_ok w hw
    simp only [decide_eq_true_eq] at this
    exact this)
  match k, hq with
  | 0, hq =>
    cases hq
    exact m_ac_arr (haw _ (by simp))
  | 1, hq =>
    cases hq
    exact m_ac_arr (haw _ (by simp))
  | 2, hq =>
    cases hq
    exact m_ac_arr (haw _ (by simp))
  | 3, hq =>
    cases hq
    obtain ⟨comp, c, k, h1, -, h3, h4, h5⟩ := Cond.arrayOver_spec (hao (.arrayOver (.object "SnowHut$Guest")) (by simp))
    have h6 : m_dA s 23 = c := by
      show (s.vm.findClass ("[" ++ (FieldType.object "SnowHut$Guest").toString)).getD 0 = c
      rw [h5]
      rfl
    show ArrOfT s (m_dA s 23) _ ∧ va_RA s (m_dA s 23) _
    rw [h6]
    exact ⟨m_arr_of h3 h4, k, comp, h3, h4, h1, h5⟩
  | 4, hq =>
    cases hq
    obtain ⟨comp, c, k, h1, h3, h4, h5⟩ := Cond.arrayOver_specA (hao (.arrayOver (.array .int)) (by simp))
    have h6 : m_dA s 24 = c := by
      show (s.vm.findClass ("[" ++ (FieldType.array .int).toString)).getD 0 = c
      rw [h5]
      rfl
    show ArrOfT s (m_dA s 24) _ ∧ va_RA s (m_dA s 24) _
    rw [h6]
    exact ⟨m_arr_of h3 h4, h5⟩
  | k + 5, hq => simp [m_tys] at hq
/-- what narrow_1 says of a static array -/
def m_sxw (e : Nat × String × List Int32) : List Cond := .arrayOf (.static "SnowHut" e.2.1 "[I") .int :: .eq (.length (.static "SnowHut" e.2.1 "[I")) (.int (Int32.ofNat e.2.2.length)) :: (List.range e.2.2.length).map (fun j => .eq (.elem (.static "SnowHut" e.2.1 "[I") (.int (Int32.ofNat j))) (.int (e.2.2.getD j 0)))
theorem m_sxw_ok : ∀ e ∈ m_sx, ∀ w ∈ m_sxw e, w ∈ flatC (Jvm.Cond.and given_1 narrow_1) := by
  have h : m_sx.all (fun e => (m_sxw e).all (fun w => decide (w ∈ flatC (Jvm.Cond.and given_1 narrow_1)))) = true := by decide +kernel
  exact fun e he w hw => of_decide_eq_true (List.all_eq_true.mp (List.all_eq_true.mp h e he) w hw)
theorem m_sxt_ok : ∀ e ∈ m_sx, Cond.laysStatic "SnowHut" e.2.1 "[I" ∈ lw_tbl ∧ Cond.initialized "SnowHut" ∈ lw_tbl := by
  have h : m_sx.all (fun e => decide (Cond.laysStatic "SnowHut" e.2.1 "[I" ∈ lw_tbl) && decide (Cond.initialized "SnowHut" ∈ lw_tbl)) = true := by decide +kernel
  intro e he
  have := List.all_eq_true.mp h e he
  simpa only [Bool.and_eq_true, decide_eq_true_eq] using this
theorem m_sx_at {s : State} {args : Array Value} {A : Nat → Prop} (hts : ∀ w ∈ lw_tbl, w.before args s = true) (hgv : (Jvm.Cond.and given_1 narrow_1).before args s = true) (hA : ∀ a : Nat, a < s.heap.size → ¬ A a) (e : Nat × String × List Int32) (he : e ∈ m_sx) :
    ∃ t : Nat, va_Z "SnowHut" e.2.1 "[I" (.ref t) A s s.heap ∧ va_T .int t e.2.2.length (fun j => .int (e.2.2.getD j 0)) A s s.heap := by
  have hs := flat_of_before _ hgv
  have hw := fun w hw => hs w (m_sxw_ok e he w hw)
  have hlen : e.2.2.length < 2 ^ 31 := by
    have h : m_sx.all (fun e => decide (e.2.2.length < 2 ^ 31)) = true := by decide +kernel
    exact of_decide_eq_true (List.all_eq_true.mp h e he)
  obtain ⟨t, ht, hT⟩ := va_Tof (args := args) (f := fun j => .int (e.2.2.getD j 0)) (A := A) hlen (hw _ List.mem_cons_self) (va_eqt (hw _ (List.mem_cons_of_mem _ List.mem_cons_self)))
    (fun j hj => va_eqt (hw _ (List.mem_cons_of_mem _ (List.mem_cons_of_mem _ (List.mem_map.mpr ⟨j, List.mem_range.mpr hj, rfl⟩))))) hA
  exact ⟨t, va_Zof (hts _ (m_sxt_ok e he).1) (hts _ (m_sxt_ok e he).2) ht hA, hT⟩
theorem m_law_facts : m_b m_law = code ∧ m_n m_law = 20 ∧ m_cn (m_o m_law) = R_law ∧ (m_y m_law).name = "law" ∧ m_r m_law = some .boolean := ⟨rfl, rfl, rfl, rfl, rfl⟩
/-- the claim's walk, from one run of the little machine -/
theorem m_start {p : Program} {e : Env} {s : State} {m : MethodId} {below : List Frame} {meth : Method} {c : Code} (l : Launch) {b L : Nat} {xs : Nat → Int32} (hL : L ≤ 260) (C0 : lw_At p s m meth c b L xs) {n d : Nat} {h' : m_H} (hd : d ≤ 10)
    (hrun : m_run ((List.range L).map xs) n d m_law 0 (m_ent m_law [.ref 1000]) [] [] = some (some (.int 1), h')) (hc : h'.length ≤ 600000) (hs : m_sl h' ≤ 7302250) :
    W p l e room_1 s m #[Value.ref b] below meth c s.heap [] 0 0 (lw_Z below #[Value.ref b] s) (entryFrame m ([Value.ref b] : List Value).toArray 20) := by
  obtain ⟨hx, hb, hr, hml, hown, hts, hX, hbl, hlocks, hname, hgv⟩ := id C0
  have hAn : ∀ a : Nat, a < s.heap.size → ¬ (fun q : Nat => s.heap.size ≤ q) a := fun a ha => Nat.not_le.mpr ha
  obtain ⟨D, hK⟩ := m_K_start hts
  have hsx : ∀ e : Nat × String × List Int32, ∃ t : Nat, e ∈ m_sx → va_Z "SnowHut" e.2.1 "[I" (.ref t) (fun q : Nat => s.heap.size ≤ q) s s.heap ∧ va_T .int t e.2.2.length (fun j => .int (e.2.2.getD j 0)) (fun q : Nat => s.heap.size ≤ q) s s.heap := by
    intro e
    by_cases he : e ∈ m_sx
    · obtain ⟨t, ht⟩ := m_sx_at hts hgv hAn e he
      exact ⟨t, fun _ => ht⟩
    · exact ⟨0, fun h => absurd h he⟩
  obtain ⟨f, hf⟩ := Classical.axiomOfChoice hsx
  let ad0 : Nat → Nat := fun a => if a = 1000 then b else match m_sx.find? (fun e => e.1 == a) with
    | some e => f e
    | none => 0
  have had : ∀ e ∈ m_sx, ad0 e.1 = f e := by
    intro e he
    have h9 : m_sx.all (fun e => decide (e.1 ≠ 1000) && decide (m_sx.find? (fun q => q.1 == e.1) = some e)) = true := by decide +kernel
    have := List.all_eq_true.mp h9 e he
    simp only [Bool.and_eq_true, decide_eq_true_eq] at this
    show (if e.1 = 1000 then b else _) = _
    rw [if_neg this.1, this.2]
  have hlen : ((List.range L).map xs).length = L := by rw [List.length_map, List.length_range]
  have hEX : m_EX ((List.range L).map xs) ad0 (fun q : Nat => s.heap.size ≤ q) s s.heap := by
    refine ⟨fun e he => ?_, ?_, hbl, hAn b hbl⟩
    · rw [had e he]
      exact hf e he
    · obtain ⟨scr, g1, g2, g3, g4, g5⟩ := hX
      refine ⟨scr, g1, g2, g3, by rw [hlen]; exact g4, fun j hj => ?_⟩
      rw [hlen] at hj
      rw [g5 j hj]
      simp [List.getD_eq_getElem?_getD, hj]
  have hNW : m_NW s := by
    have hao : ∀ w ∈ [Cond.arrayOver (.object "SnowHut$Guest"), .arrayOver (.array .int)], w ∈ lw_tbl := fun w hw => of_decide_eq_true (List.all_eq_true.mp m_ao_ok w hw)
    refine ⟨fun w hw => ?_, va_AO.of (hts _ (hao _ (by simp))), ?_⟩
    · have h1 : w.before #[Value.ref b] s = true := hts w (of_decide_eq_true (List.all_eq_true.mp m_nw_in w hw))
      rcases m_nw_kinds w hw with ⟨a, i, x, h, rfl⟩ | ⟨a, i, b, n, d, h, rfl⟩ <;> exact h1
    · have h1 : (Cond.arrayOver (.array .int)).before #[Value.ref b] s = true := hts _ (hao _ (by simp))
      exact h1
  obtain ⟨f1, f2, f3, f4, f5⟩ := m_law_facts
  have C : m_C m_law ((List.range L).map xs) p room_1 s m #[Value.ref b] meth c D (m_dA s) (fun q : Nat => s.heap.size ≤ q) ad0 :=
    ⟨hx, hb, hml, by rw [f3]; exact hown, fun w hw => hts w (List.mem_filter.mp hw).1, hNW, hK, fun q hq => hq, hEX, by rw [f4]; exact hname, Nat.le_of_ble_eq_true rfl, Nat.le_of_ble_eq_true rfl, by rw [hlen]; omega⟩
  have I : m_I D (m_dA s) (fun q : Nat => s.heap.size ≤ q) s ad0 ad0 0 0 [] s.heap [] 0 0 :=
    ⟨fun k q hq => (by cases hq), ⟨fun i j p q hp => (by cases hp), fun k q hq => (by cases hq)⟩, va_S.rf, rfl, rfl, fun _ _ => rfl, Nat.zero_le _⟩
  rw [lg_entry_eq]
  have hlo := m_lo_entry (k := m_law) (As := [.ref 1000]) (ad := ad0) (Nat.le_of_ble_eq_true rfl)
  have h1000 : ad0 1000 = b := if_pos rfl
  have harg : [Value.ref 1000].map (m_cv ad0) = [Value.ref b] := by
    show [Value.ref (ad0 1000)] = _
    rw [h1000]
  rw [harg, f2] at hlo
  refine m_BD_all l ((List.range L).map xs) (by rw [hlen]; omega) n p e room_1 s m #[Value.ref b] below meth c (lw_Z below #[Value.ref b] s) D (m_dA s) (fun q : Nat => s.heap.size ≤ q) ad0 ad0 0 0 d m_law 0 (m_ent m_law [.ref 1000]) [] [] (some (.int 1)) h' s.heap [] 0 0 _ C I (by rw [f2]; exact hlo) ⟨by show h'.length ≤ 600000 + 0; omega, by show m_sl h' ≤ 7302250 + 0; omega⟩ ⟨by show d + 1 ≤ 11; omega, by show 38 * (d + 1) ≤ 418; omega⟩ hrun ?_
  intro i pc st ad H locs cells slots ls hdec hret I1
  obtain ⟨-, -, iS, i4, i5, -, -⟩ := I1
  cases i
  all_goals first | (cases hret; done) | skip
  case ireturn =>
    unfold m_ret at hret
    dsimp only at hret
    split at hret
    · split at hret
      · cases hret
        refine va_forget (fun q hq => iS.2.2 q hq) (W.widen (k := 600000) (n := 7302250) (by omega) (by omega) ?_)
        exact lw_ret hx hb hr hlocks hdec
      · cases hret
    · cases hret
  case lreturn =>
    unfold m_ret at hret
    dsimp only at hret
    split at hret
    · split at hret <;> cases hret
    · cases hret
  case areturn =>
    unfold m_ret at hret
    dsimp only at hret
    split at hret
    · split at hret <;> cases hret
    · cases hret
  case return_ =>
    unfold m_ret at hret
    dsimp only at hret
    split at hret
    · split at hret <;> cases hret
    · cases hret
