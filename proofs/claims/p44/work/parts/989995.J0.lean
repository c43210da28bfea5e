/-! at first; the law from its entry to its end; the room -/
theorem m_i0_r : ∀ e ∈ m_i0, inR e.2 := by
  have h : m_i0.all (fun e => decide (-2147483648 ≤ e.2) && decide (e.2 < 2147483648)) = true := by decide +kernel
  intro e he
  have h1 := List.all_eq_true.mp h e he
  rw [Bool.and_eq_true, decide_eq_true_eq, decide_eq_true_eq] at h1
  exact h1
theorem gok_0 : ∀ g ∈ [26, 28, 30, 32, 34, 36, 44, 48, 52, 56, 60, 64], gok m_s0 g := by
  have h : ([26, 28, 30, 32, 34, 36, 44, 48, 52, 56, 60, 64] : List Int).all (fun g => decide (0 ≤ m_s0 g 1) && decide (m_s0 g 1 < 6) && decide (m_s0 g 2 = hset (m_s0 (g + 1)) (hf (m_s0 g 1))) && (List.range 4).all (fun c => decide (0 ≤ m_s0 (g + 1) ((c : Nat) : Int)) && decide (m_s0 (g + 1) ((c : Nat) : Int) ≤ 20))) = true := by decide +kernel
  intro g hg
  have h1 := List.all_eq_true.mp h g hg
  simp only [Bool.and_eq_true, decide_eq_true_eq, List.all_eq_true] at h1
  obtain ⟨⟨⟨a1, a2⟩, a3⟩, a4⟩ := h1
  refine ⟨a1, a2, a3, fun c c0 c1 => ?_⟩
  have := a4 c.toNat (List.mem_range.mpr (by omega))
  rw [show ((c.toNat : Nat) : Int) = c by omega] at this
  exact this
theorem i6c {i : Int} (h0 : 0 ≤ i) (h6 : i < 6) : i = 0 ∨ i = 1 ∨ i = 2 ∨ i = 3 ∨ i = 4 ∨ i = 5 := by omega
theorem s0_big : m_i0.all (fun e => decide (e.1.1 < 77)) = true := by decide +kernel
theorem lookup_big {c j : Nat} (hc : 77 ≤ c) : ∀ l : List ((Nat × Nat) × Int), l.all (fun e => decide (e.1.1 < 77)) = true → l.lookup (c, j) = none := by
  intro l
  induction l with
  | nil => intro _; rfl
  | cons e l ih =>
    intro h
    rw [List.all_cons, Bool.and_eq_true, decide_eq_true_eq] at h
    obtain ⟨⟨a, b⟩, v⟩ := e
    rw [List.lookup_cons]
    have hne : ((c, j) == (a, b)) = false := by
      cases hq : ((c, j) == (a, b)) with
      | false => rfl
      | true =>
        have := eq_of_beq hq
        injection this with h1 h2
        have h3 := h.1
        dsimp only at h3
        omega
    rw [hne]
    exact ih h.2
theorem m_s0_z {c j : Int} (hc : 77 ≤ c) : m_s0 c j = 0 := by
  unfold m_s0
  rw [lookup_big (by omega) _ s0_big]
  rfl
theorem okv_ref {lo hi a : Nat} (h : a < lo) : m_okv lo hi (.ref a) = true := by
  show (decide (a < lo) || decide (hi ≤ a)) = true
  rw [decide_eq_true h, Bool.true_or]
theorem m_okH_mk (G : Nat) (s : m_St) : m_okH (77 + G) (77 + G + 1) (m_mk G s) = true := by
  have hk : ∀ e ∈ m_shG G, ∀ k ∈ e.2, k - 2 < 77 := by
    have h1 : (m_sh ++ m_shx).all (fun e => e.2.all (fun k => decide (k - 2 < 77))) = true := by decide +kernel
    intro e he k hkk
    have he2 : e ∈ m_sh ++ m_shx := by
      unfold m_shG at he
      rcases List.mem_append.mp he with q | q
      · exact List.mem_append.mpr (Or.inl q)
      · exact List.mem_append.mpr (Or.inr (List.mem_of_mem_take q))
    have := List.all_eq_true.mp (List.all_eq_true.mp h1 e he2) k hkk
    exact of_decide_eq_true this
  unfold m_okH
  rw [List.all_eq_true]
  intro c hc
  unfold m_mk at hc
  obtain ⟨i, hi, rfl⟩ := List.mem_mapIdx.mp hc
  rw [List.all_eq_true]
  intro v hv
  obtain ⟨j, hj, rfl⟩ := List.mem_mapIdx.mp hv
  have h2 := hk _ (List.getElem_mem hi) _ (List.getElem_mem hj)
  unfold m_mkv
  split
  · rfl
  · split
    · rfl
    · exact okv_ref (by omega)
theorem m_sl_mk (G : Nat) (s : m_St) : m_sl (m_mk G s) ≤ 7302250 := by
  have e : (m_mk G s).map (fun c => c.2.length) = (m_shG G).map (fun e => e.2.length) := by
    apply List.ext_getElem?
    intro i
    unfold m_mk
    rw [List.getElem?_map, List.getElem?_map, List.getElem?_mapIdx]
    cases (m_shG G)[i]? with
    | none => rfl
    | some e =>
      rw [Option.map_some, Option.map_some, Option.map_some, List.length_mapIdx]
  have h4 : m_shx.take G = m_shx.take 0 ∨ m_shx.take G = m_shx.take 1 ∨ m_shx.take G = m_shx.take 2 ∨ m_shx.take G = m_shx.take 3 ∨ m_shx.take G = m_shx.take 4 := by
    rcases (show G = 0 ∨ G = 1 ∨ G = 2 ∨ G = 3 ∨ 4 ≤ G by omega) with rfl | rfl | rfl | rfl | h
    · exact Or.inl rfl
    · exact Or.inr (Or.inl rfl)
    · exact Or.inr (Or.inr (Or.inl rfl))
    · exact Or.inr (Or.inr (Or.inr (Or.inl rfl)))
    · refine Or.inr (Or.inr (Or.inr (Or.inr ?_)))
      rw [List.take_of_length_le (by exact h), List.take_of_length_le (by decide)]
  unfold m_sl
  rw [e]
  unfold m_shG
  rcases h4 with h | h | h | h | h <;> rw [h] <;> decide +kernel
theorem m_len_mk (G : Nat) (s : m_St) : (m_mk G s).length ≤ 600000 := by
  rw [m_mk_len, List.length_take]
  have h1 : m_sh.length = 77 := rfl
  have h2 : m_shx.length = 4 := rfl
  omega
section GO
variable {Xs : List Int32} {P : Option Value → m_St → Prop}
theorem law_go (hX : Xs.length ≤ 260) (fin : ∀ s, P (some (vI 1)) s) : Rn (Xs, 0) 9 170 8 [some (vR 1000), some (vR 0), none, none, none, none, none, none, none, none, none, none, none, none, none, none, none, none, none, none] [] m_s0 P := by
  have hX2 : Xs.length < 2147483648 := by omega
  have g44 : ∀ i, 0 ≤ i → i < 6 → gok m_s0 (44 + 4 * i) := fun i i0 i6 => by
    rcases i6c i0 i6 with rfl | rfl | rfl | rfl | rfl | rfl
    all_goals exact gok_0 _ (by decide)
  have g26 : rgk m_s0 := fun i i0 i6 => by
    rcases i6c i0 i6 with rfl | rfl | rfl | rfl | rfl | rfl
    all_goals exact gok_0 _ (by decide)
  have main : ∀ w m n : Int, 0 ≤ w → w ≤ 40 → 0 ≤ m → m ≤ 5 → 2 ≤ n → n ≤ 6 → Rn (Xs, 0) 9 170 65 [some (vR 1000), some (vR 0), some (vI w), some (vI m), some (vI n), none, none, none, none, none, none, none, none, none, none, none, none, none, none, none] [vI 12] m_s0 P := by
    intro w m n w0 w4 m0 m5 n2 n6
    refine r_newU (X := (Xs, 0)) (len := 12) F_170_65 rfl (by decide) (fun j => m_s0_z (c := 77) (by decide)) rfl rfl (m_okH_mk 0 _) ?_
    show Rn (Xs, 1) 9 170 67 _ [vR 77] m_s0 P
    refine t_L_law_67 (d := 0) (Nat.le_refl _) ?_
    refine r_newU (X := (Xs, 1)) (len := 30) F_170_71 rfl (by decide) (fun j => m_s0_z (c := 78) (by decide)) rfl rfl (m_okH_mk 1 _) ?_
    show Rn (Xs, 2) 9 170 73 _ [vR 78] m_s0 P
    refine t_L_law_73 (d := 0) (Nat.le_refl _) ?_
    refine Cl.up (d := 1) (sp_draws (d := 0) (Nat.le_refl _) hX2 (by decide) (by decide) m0 m5 (by omega) n6 (fun s e1 e2 e3 => ?_)) (by decide)
    show Rn (Xs, 2) 9 170 87 _ [] s P
    refine t_L_law_87 (d := 0) (Nat.le_refl _) hX2 (fun v1 _ => ?_)
    refine sp_makesL (d := 0) (Nat.le_refl _) w0 w4 m0 m5 n2 n6 e2 e3 (by rw [e1 10 2 (by decide) (by decide)]; decide +kernel) (fun j => by rw [e1 79 j (by decide) (by decide)]; exact m_s0_z (by decide)) (fun i i0 i6 => gok_cong (fun j => e1 _ _ (by omega) (by omega)) (fun j => e1 _ _ (by omega) (by omega)) (g26 i i0 i6)) (fun i i0 i6 => gok_cong (fun j => e1 _ _ (by omega) (by omega)) (fun j => e1 _ _ (by omega) (by omega)) (g44 i i0 i6)) (fun t hK ht => ?_)
    have z79 : ∀ c j, 79 ≤ c → t c j = 0 := fun c j hc => by rw [ht c j (by omega), e1 c j (by omega) (by omega)]; exact m_s0_z (by omega)
    show Rn (Xs, 2) 9 170 105 _ [vI 1] t P
    refine t_L_law_105 (d := 0) (Nat.le_refl _) ?_
    refine r_newU (X := (Xs, 2)) (len := 2) F_170_108 rfl (by decide) (fun j => z79 79 j (by decide)) rfl rfl (m_okH_mk 2 _) ?_
    show Rn (Xs, 3) 9 170 110 _ [vR 79] t P
    refine t_L_law_110 (d := 0) (Nat.le_refl _) ?_
    refine r_newU (X := (Xs, 3)) (len := 30) F_170_114 rfl (by decide) (fun j => z79 80 j (by decide)) rfl rfl (m_okH_mk 3 _) ?_
    show Rn (Xs, 4) 9 170 116 _ [vR 80] t P
    refine t_L_law_116 (d := 0) (Nat.le_refl _) ?_
    exact lw_133 (d := 0) (Nat.le_refl _) hX2 fin 36 0 t w 0 0 0 none none none none none (by decide) (by decide) hK (by decide)
  refine t_L_law_8 (d := 0) (Nat.le_refl _) hX2 ?_ ?_ ?_
  · intros
    omega
  · intros
    refine main _ _ _ ?_ ?_ ?_ ?_ ?_ ?_ <;> omega
  · intros
    refine main _ _ _ ?_ ?_ ?_ ?_ ?_ ?_ <;> omega
end GO
theorem law_runs (X : List Int32) (hX : X.length ≤ 260) : ∃ n h', m_run X n 9 m_law 0 (m_ent m_law [.ref 1000]) [] [] = some (some (.int 1), h') ∧ h'.length ≤ 600000 ∧ m_sl h' ≤ 7302250 := by
  obtain ⟨n, v, s', ⟨G, h1, -⟩, h2⟩ := law_go (P := fun v _ => v = some (vI 1)) hX (fun _ => rfl)
  rw [h2, ← hp_last] at h1
  obtain ⟨n', h3⟩ := boot X ⟨n, h1⟩
  exact ⟨n', m_mk G s', h3, m_len_mk G s', m_sl_mk G s'⟩
