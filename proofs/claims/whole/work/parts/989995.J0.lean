/-! at first: the coupling, the room -/
theorem m_i0_r : ∀ e ∈ m_i0, inR e.2 := by
  have h : m_i0.all (fun e => decide (-2147483648 ≤ e.2) && decide (e.2 < 2147483648)) = true := by decide +kernel
  intro e he
  have h1 := List.all_eq_true.mp h e he
  rw [Bool.and_eq_true, decide_eq_true_eq, decide_eq_true_eq] at h1
  exact h1
theorem lookup_mem {α β : Type} [BEq α] [LawfulBEq α] {a : α} {b : β} : ∀ l : List (α × β), l.lookup a = some b → (a, b) ∈ l := by
  intro l
  induction l with
  | nil => intro h; cases h
  | cons e l ih =>
    intro h
    obtain ⟨x, y⟩ := e
    rw [List.lookup_cons] at h
    by_cases hx : (a == x) = true
    · rw [hx] at h
      injection h with h
      have := eq_of_beq hx
      subst this h
      exact List.mem_cons_self
    · have hx' : (a == x) = false := by
        cases hb : (a == x)
        · rfl
        · exact absurd hb hx
      rw [hx'] at h
      exact List.mem_cons_of_mem _ (ih h)
theorem m_s0_r (c j : Int) : inR (m_s0 c j) := by
  unfold m_s0
  cases h : m_i0.lookup (c.toNat, j.toNat) with
  | none => exact inR_0
  | some v => exact m_i0_r _ (lookup_mem _ h)
theorem gok_0 : ∀ g ∈ [26, 28, 30, 32, 34, 36, 44, 48, 52, 56, 60, 64, 67, 69], gok m_s0 g := by
  have h : ([26, 28, 30, 32, 34, 36, 44, 48, 52, 56, 60, 64, 67, 69] : List Int).all (fun g => decide (0 ≤ m_s0 g 1) && decide (m_s0 g 1 < 6) && decide (m_s0 g 2 = hset (m_s0 (g + 1)) (hf (m_s0 g 1))) && (List.range 4).all (fun c => decide (0 ≤ m_s0 (g + 1) ((c : Nat) : Int)) && decide (m_s0 (g + 1) ((c : Nat) : Int) ≤ 20))) = true := by decide +kernel
  intro g hg
  have h1 := List.all_eq_true.mp h g hg
  simp only [Bool.and_eq_true, decide_eq_true_eq, List.all_eq_true] at h1
  obtain ⟨⟨⟨a1, a2⟩, a3⟩, a4⟩ := h1
  refine ⟨a1, a2, a3, fun c c0 c1 => ?_⟩
  have := a4 c.toNat (List.mem_range.mpr (by omega))
  rw [show ((c.toNat : Nat) : Int) = c by omega] at this
  exact this
theorem i6c {i : Int} (h0 : 0 ≤ i) (h6 : i < 6) : i = 0 ∨ i = 1 ∨ i = 2 ∨ i = 3 ∨ i = 4 ∨ i = 5 := by omega
theorem bt0 (k : Nat) : bt 0 k = false := by
  unfold bt
  simp
theorem J_0 : J m_s0 := by
  have g44 : ∀ i, 0 ≤ i → i < 6 → gok m_s0 (44 + 4 * i) := fun i i0 i6 => by
    rcases i6c i0 i6 with rfl | rfl | rfl | rfl | rfl | rfl
    all_goals exact gok_0 _ (by decide)
  have g26 : ∀ i, 0 ≤ i → i < 6 → gok m_s0 (26 + 2 * i) := fun i i0 i6 => by
    rcases i6c i0 i6 with rfl | rfl | rfl | rfl | rfl | rfl
    all_goals exact gok_0 _ (by decide)
  have e3 : m_s0 38 3 = 0 := by decide +kernel
  have e4 : m_s0 38 4 = 0 := by decide +kernel
  have e5 : m_s0 38 5 = 0 := by decide +kernel
  have e9 : m_s0 38 9 = 0 := by decide +kernel
  have e6 : m_s0 38 6 = 0 := by decide +kernel
  have e7 : m_s0 38 7 = -1 := by decide +kernel
  have e8 : m_s0 38 8 = -1 := by decide +kernel
  have hb0 : hbase m_s0 0 = 0 := by decide +kernel
  have hb1 : hbase m_s0 1 = 0 := by decide +kernel
  have hb2 : hbase m_s0 2 = 0 := by decide +kernel
  have hb5 : hbase m_s0 5 = 0 := by decide +kernel
  have hb6 : hbase m_s0 6 = 0 := by decide +kernel
  have q0 : m_s0 83 0 = 0 := by decide +kernel
  have q1 : m_s0 83 1 = 0 := by decide +kernel
  have q2 : m_s0 83 2 = 0 := by decide +kernel
  have q3 : m_s0 83 3 = 0 := by decide +kernel
  have q4 : m_s0 83 4 = 0 := by decide +kernel
  have q5 : m_s0 83 5 = 0 := by decide +kernel
  have q6 : m_s0 83 6 = 0 := by decide +kernel
  have q7 : m_s0 83 7 = 0 := by decide +kernel
  have hbk : bok m_s0 := ⟨by omega, by omega, by omega, by omega, fun i i0 i1 => by omega, g44⟩
  refine ⟨⟨by decide +kernel, fun r r0 r6 => ?_⟩, ⟨by decide +kernel, fun t t0 t4 => ?_⟩, ⟨by decide +kernel, by decide +kernel, by decide +kernel, by decide +kernel, fun f f1 f5 => ?_⟩, ⟨hbk, ?_, ?_⟩, ⟨by decide +kernel, fun k k0 k3 => ?_⟩, ⟨g26, ⟨gok_0 67 (by decide), gok_0 69 (by decide)⟩, fun i => m_s0_r _ _⟩⟩
  · have h : m_s0 2 r = -1 ∧ m_s0 78 r = -1 := by
      rcases i6c r0 r6 with rfl | rfl | rfl | rfl | rfl | rfl
      all_goals decide +kernel
    exact ⟨by omega, by omega, by omega, fun j j0 j1 => by omega⟩
  · have h : m_s0 11 t = -1 ∧ m_s0 81 t = -1 := by
      rcases (show t = 0 ∨ t = 1 ∨ t = 2 ∨ t = 3 by omega) with rfl | rfl | rfl | rfl
      all_goals decide +kernel
    exact ⟨by omega, by omega, by omega, fun j j0 j1 => by omega⟩
  · rcases (show f = 1 ∨ f = 2 ∨ f = 3 ∨ f = 4 ∨ f = 5 by omega) with rfl | rfl | rfl | rfl | rfl
    all_goals decide +kernel
  · rw [e9, e5]
    refine ⟨by decide, by decide, q3, q4, ?_, fun k hk => by omega, fun j hj_ => ?_, fun k hk => by omega⟩
    · rw [q7]
      exact ⟨by decide, by decide, fun a b _ _ => ⟨by rw [bt0, bt0], fun _ => bt0 _⟩, fun k _ => ⟨bt0 k, bt0 k⟩⟩
    · show m_s0 83 j = hbase m_s0 j
      rw [hb0] at hj_
      rcases (show j = 0 ∨ j = 1 ∨ j = 2 ∨ j = 5 ∨ j = 6 by unfold hj at hj_; omega) with rfl | rfl | rfl | rfl | rfl
      · rw [q0, hb0]
      · rw [q1, hb1]
      · rw [q2, hb2]
      · rw [q5, hb5]
      · rw [q6, hb6]
  · rw [e9]
    show rep m_s0 (hbase m_s0)
    exact ⟨by rw [e3, hb0], by rw [e6, hb1], by rw [e4, hb2], by rw [e7, hb5]; rfl, by rw [e8, hb6]; rfl, g44, fun i i0 i1 => by omega⟩
  · have h : m_s0 18 k = -1 ∧ m_s0 86 k = 0 := by
      rcases (show k = 0 ∨ k = 1 ∨ k = 2 by omega) with rfl | rfl | rfl
      all_goals decide +kernel
    exact ⟨by omega, by omega, fun _ => h.2, fun z => absurd h.1 z⟩
theorem m_sl_mk (s : m_St) : m_sl (m_mk s) ≤ 7302250 := by
  have e : (m_mk s).map (fun c => c.2.length) = m_sh.map (fun e => e.2.length) := by
    apply List.ext_getElem?
    intro i
    unfold m_mk
    rw [List.getElem?_map, List.getElem?_map, List.getElem?_mapIdx]
    cases m_sh[i]? with
    | none => rfl
    | some e =>
      rw [Option.map_some, Option.map_some, Option.map_some, List.length_mapIdx]
  unfold m_sl
  rw [e]
  decide +kernel
theorem law_runs (X : List Int32) (hX : X.length ≤ 3072) : ∃ n h', m_run X n 40 m_law 0 (m_ent m_law [.ref 1000]) [] [] = some (some (.int 1), h') ∧ h'.length ≤ 600000 ∧ m_sl h' ≤ 7302250 := by
  obtain ⟨n, v, s', h1, h2⟩ := law_loop (X := X) (d := 19) hX 600 0 m_s0 (by decide) (by decide) (by omega) J_0
  rw [h2, ← hp_last] at h1
  obtain ⟨n', h3⟩ := boot X ⟨n, h1⟩
  exact ⟨n', m_mk s', h3, by rw [m_mk_len]; decide, m_sl_mk s'⟩
