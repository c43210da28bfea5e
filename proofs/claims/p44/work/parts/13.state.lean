/-! THE STATE: behind the constructor only the law makes cells; so a heap is a function of its ints (cell, place) -/
abbrev m_St : Type := Int → Int → Int
def vI (a : Int) : Value := .int (Int32.ofInt a)
def vJ (a : Int) : Value := .long (Int64.ofInt a)
def vR (a : Int) : Value := .ref a.toNat
/-- tag of each cell, and its places: 0 an int, 1 a long, r + 2 a reference to r -/
def m_sh : List (Nat × List Nat) := [(5, [3, 12, 19, 25, 40, 68, 76, 78, 0, 0, 1, 1]), (3, [4, 5, 0]), (20, [0, 0, 0, 0, 0, 0]), (24, [6, 7, 8, 9, 10, 11]), (20, List.replicate 40 0), (20, List.replicate 40 0), (20, List.replicate 40 0), (20, List.replicate 40 0), (20, List.replicate 40 0), (20, List.replicate 40 0), (3, [13, 14, 0]), (20, [0, 0, 0, 0]), (24, [15, 16, 17, 18]), (20, List.replicate 60 0), (20, List.replicate 60 0), (20, List.replicate 60 0), (20, List.replicate 60 0), (3, [20, 21, 0]), (20, [0, 0, 0]), (24, [22, 23, 24]), (20, List.replicate 40 0), (20, List.replicate 40 0), (20, List.replicate 40 0), (2, [26, 27, 0, 0, 0, 0, 0]), (23, [28, 30, 32, 34, 36, 38]), (20, List.replicate 60 0), (0, [29, 0, 0]), (20, [0, 0, 0, 0]), (0, [31, 0, 0]), (20, [0, 0, 0, 0]), (0, [33, 0, 0]), (20, [0, 0, 0, 0]), (0, [35, 0, 0]), (20, [0, 0, 0, 0]), (0, [37, 0, 0]), (20, [0, 0, 0, 0]), (0, [39, 0, 0]), (20, [0, 0, 0, 0]), (1, [41, 42, 43, 0, 0, 0, 0, 0, 0, 0]), (23, [44, 48, 52, 56, 60, 64]), (23, [46, 50, 54, 58, 62, 66]), (20, List.replicate 40 0), (0, [45, 0, 0]), (20, [0, 0, 0, 0]), (0, [47, 0, 0]), (20, [0, 0, 0, 0]), (0, [49, 0, 0]), (20, [0, 0, 0, 0]), (0, [51, 0, 0]), (20, [0, 0, 0, 0]), (0, [53, 0, 0]), (20, [0, 0, 0, 0]), (0, [55, 0, 0]), (20, [0, 0, 0, 0]), (0, [57, 0, 0]), (20, [0, 0, 0, 0]), (0, [59, 0, 0]), (20, [0, 0, 0, 0]), (0, [61, 0, 0]), (20, [0, 0, 0, 0]), (0, [63, 0, 0]), (20, [0, 0, 0, 0]), (0, [65, 0, 0]), (20, [0, 0, 0, 0]), (0, [67, 0, 0]), (20, [0, 0, 0, 0]), (4, [69, 71, 0, 73, 0, 1, 0, 74, 0, 0, 75]), (0, [70, 0, 0]), (20, [0, 0, 0, 0]), (0, [72, 0, 0]), (20, [0, 0, 0, 0]), (20, [0, 0, 0, 0, 0]), (20, [0, 0, 0, 0, 0, 0]), (21, List.replicate 16 1), (0, [77, 0, 0]), (20, [0, 0, 0, 0]), (20, [0, 0, 0, 0, 0, 0])]
def m_mkv (s : m_St) (c j k : Nat) : Value := if k = 0 then vI (s c j) else if k = 1 then vJ (s c j) else .ref (k - 2)
/-- the law's own arrays -/
def m_shx : List (Nat × List Nat) := [(20, List.replicate 12 0), (20, List.replicate 30 0), (20, List.replicate 2 0), (20, List.replicate 30 0)]
def m_shG (G : Nat) : List (Nat × List Nat) := m_sh ++ m_shx.take G
def m_mk (G : Nat) (s : m_St) : m_H := (m_shG G).mapIdx fun c e => (e.1, e.2.mapIdx fun j k => m_mkv s c j k)
def m_upd (s : m_St) (c j v : Int) : m_St := fun a i => if a = c ∧ i = j then v else s a i
def m_i0 : List ((Nat × Nat) × Int) := [((0, 11), 1), ((1, 2), 40), ((2, 0), -1), ((2, 1), -1), ((2, 2), -1), ((2, 3), -1), ((2, 4), -1), ((2, 5), -1), ((10, 2), 60), ((11, 0), -1), ((11, 1), -1), ((11, 2), -1), ((11, 3), -1), ((17, 2), 40), ((18, 0), -1), ((18, 1), -1), ((18, 2), -1), ((38, 7), -1), ((38, 8), -1)]
def m_s0 : m_St := fun c j => (m_i0.lookup (c.toNat, j.toNat)).getD 0
/-- tag, length, kind of a place -/
def ty (a : Int) : Nat := if a < 0 then 99 else ((m_sh[a.toNat]?).map (fun e => e.1)).getD 99
def ln (a : Int) : Int := ((m_sh[a.toNat]?).map (fun e => (e.2.length : Int))).getD 0
def kd (a j : Int) : Nat := ((m_sh[a.toNat]?).bind (fun e => e.2[j.toNat]?)).getD 999
/-- to which cell a place of references refers -/
def rf (a j : Int) : Int := ((kd a j : Nat) : Int) - 2
theorem m_mk_len {G : Nat} (s : m_St) : (m_mk G s).length = m_sh.length + (m_shx.take G).length := by unfold m_mk m_shG; rw [List.length_mapIdx, List.length_append]
theorem shG_at {G i : Nat} {e : Nat × List Nat} (h : m_sh[i]? = some e) : (m_shG G)[i]? = some e := by
  unfold m_shG
  rw [List.getElem?_append_left (List.getElem?_eq_some_iff.mp h).1, h]
theorem m_ty_lt {a : Int} {t : Nat} (h : ty a = t) (ht : t < 99) : 0 ≤ a ∧ ∃ e, m_sh[a.toNat]? = some e ∧ e.1 = t := by
  unfold ty at h
  split at h
  · omega
  · cases hc : m_sh[a.toNat]? with
    | none => rw [hc] at h; simp at h; omega
    | some e => rw [hc] at h; exact ⟨by omega, e, rfl, h⟩
theorem m_mk_at {G : Nat} {s : m_St} {a : Int} {t : Nat} (h : ty a = t) (ht : t < 99) : ∃ e, m_sh[a.toNat]? = some e ∧ e.1 = t ∧ ln a = e.2.length ∧ (m_mk G s)[a.toNat]? = some (t, e.2.mapIdx fun j k => m_mkv s a.toNat j k) ∧ ((a.toNat : Nat) : Int) = a := by
  obtain ⟨h0, e, he, h1⟩ := m_ty_lt h ht
  refine ⟨e, he, h1, ?_, ?_, Int.toNat_of_nonneg h0⟩
  · unfold ln; rw [he]; rfl
  · unfold m_mk; rw [List.getElem?_mapIdx, shG_at he, ← h1]; rfl
theorem m_sh_ints : ∀ e ∈ m_sh, (e.1 = 20 ∨ e.1 = 22 → ∀ k ∈ e.2, k = 0) ∧ (e.1 = 21 → ∀ k ∈ e.2, k = 1) ∧ (e.1 = 23 ∨ e.1 = 24 → ∀ k ∈ e.2, 2 ≤ k) ∧ e.2.length < 1000 := by
  have h : m_sh.all (fun e => (decide (¬ (e.1 = 20 ∨ e.1 = 22)) || e.2.all (fun k => decide (k = 0))) && (decide (¬ e.1 = 21) || e.2.all (fun k => decide (k = 1))) && (decide (¬ (e.1 = 23 ∨ e.1 = 24)) || e.2.all (fun k => decide (2 ≤ k))) && decide (e.2.length < 1000)) = true := by decide +kernel
  intro e he
  have h1 := List.all_eq_true.mp h e he
  simp only [Bool.and_eq_true, Bool.or_eq_true, decide_eq_true_eq, List.all_eq_true] at h1
  obtain ⟨⟨⟨g1, g2⟩, g3⟩, g4⟩ := h1
  exact ⟨fun q k hk => g1.elim (fun z => absurd q z) (fun z => z k hk), fun q k hk => g2.elim (fun z => absurd q z) (fun z => z k hk), fun q k hk => g3.elim (fun z => absurd q z) (fun z => z k hk), g4⟩
theorem m_mk_updG {G : Nat} {s : m_St} {a j v : Int} {e : Nat × List Nat} (he : (m_shG G)[a.toNat]? = some e) (ha : 0 ≤ a) (hj : 0 ≤ j) {w : Value} {k : Nat} (hk : e.2[j.toNat]? = some k) (hw : m_mkv (m_upd s a j v) a.toNat j.toNat k = w) :
    m_mk G (m_upd s a j v) = (m_mk G s).set a.toNat (e.1, (e.2.mapIdx fun i k => m_mkv s a.toNat i k).set j.toNat w) := by
  apply List.ext_getElem?
  intro i
  unfold m_mk
  rw [List.getElem?_mapIdx, List.getElem?_set, List.length_mapIdx, List.getElem?_mapIdx]
  by_cases hi : a.toNat = i
  · subst hi
    rw [if_pos rfl, he, if_pos (List.getElem?_eq_some_iff.mp he).1]
    rw [Option.map_some]
    congr 1
    refine Prod.ext rfl ?_
    apply List.ext_getElem?
    intro n
    show (e.2.mapIdx _)[n]? = _
    rw [List.getElem?_mapIdx, List.getElem?_set, List.length_mapIdx, List.getElem?_mapIdx]
    by_cases hn : j.toNat = n
    · subst hn
      rw [if_pos rfl, hk, if_pos (List.getElem?_eq_some_iff.mp hk).1, Option.map_some, hw]
    · rw [if_neg hn]
      cases hen : e.2[n]? with
      | none => rfl
      | some k =>
        rw [Option.map_some, Option.map_some]
        have : m_upd s a j v (a.toNat : Int) (n : Int) = s (a.toNat : Int) (n : Int) := by
          unfold m_upd
          rw [if_neg (by omega)]
        unfold m_mkv
        rw [this]
  · rw [if_neg hi]
    cases hen : (m_shG G)[i]? with
    | none => rfl
    | some q =>
      rw [Option.map_some, Option.map_some]
      have : ∀ z : Int, m_upd s a j v (i : Int) z = s (i : Int) z := fun z => by
        unfold m_upd
        rw [if_neg (by omega)]
      unfold m_mkv
      simp only [this]
theorem m_mk_upd {G : Nat} {s : m_St} {a j v : Int} {e : Nat × List Nat} (he : m_sh[a.toNat]? = some e) (ha : 0 ≤ a) (hj : 0 ≤ j) {w : Value} {k : Nat} (hk : e.2[j.toNat]? = some k) (hw : m_mkv (m_upd s a j v) a.toNat j.toNat k = w) :
    m_mk G (m_upd s a j v) = (m_mk G s).set a.toNat (e.1, (e.2.mapIdx fun i k => m_mkv s a.toNat i k).set j.toNat w) := m_mk_updG (shG_at he) ha hj hk hw
-- ===== more steps, deeper: the same end =====
theorem m_run_up {X : List Int32} : ∀ (n d k pc : Nat) (L : m_L) (st : List Value) (h : m_H) (r : Option Value × m_H), m_run X n d k pc L st h = some r → ∀ n' d' : Nat, n ≤ n' → d ≤ d' → m_run X n' d' k pc L st h = some r := by
  intro n
  induction n with
  | zero => intro d k pc L st h r e; cases e
  | succ n ih =>
    intro d k pc L st h r e n' d' hn hd
    obtain ⟨n', rfl⟩ : ∃ z, n' = z + 1 := ⟨n' - 1, by omega⟩
    rw [m_run.eq_def] at e ⊢
    dsimp only at e ⊢
    split at e
    · cases e
    · next i len hdec =>
      try rw [hdec]
      try dsimp only
      split at e
      · next hlen =>
        try rw [if_pos hlen]
        split at e
        · next v hv =>
          try rw [hv]
          exact e
        · next hv =>
          try rw [hv]
          try dsimp only
          split at e
          · next y As q hi =>
            try rw [hi]
            try dsimp only
            split at e
            · cases e
            · next d0 =>
              obtain ⟨d', rfl⟩ : ∃ z, d' = z + 1 := ⟨d' - 1, by omega⟩
              try dsimp only
              split at e
              · next hl =>
                try rw [if_pos hl]
                split at e
                · next v1 h1 hr =>
                  rw [ih _ _ _ _ _ _ _ hr n' d' (by omega) (by omega)]
                  dsimp only
                  split at e
                  · next hok =>
                    rw [if_pos hok]
                    exact ih _ _ _ _ _ _ _ e n' (d' + 1) (by omega) (by omega)
                  · cases e
                · cases e
              · cases e
          · next hi =>
            try rw [hi]
            try dsimp only
            split at e
            · next q hq =>
              try rw [hq]
              exact ih _ _ _ _ _ _ _ e n' d' (by omega) hd
            · cases e
      · cases e
/-- the script, and how many arrays of the law's own are there -/
abbrev m_X : Type := List Int32 × Nat
/-- the method k, at its place pc, comes to its end with an answer and a state of which P holds -/
def Rn (X : m_X) (d k pc : Nat) (L : m_L) (st : List Value) (s : m_St) (P : Option Value → m_St → Prop) : Prop := ∃ n v s', (∃ G, m_run X.1 n d k pc L st (m_mk X.2 s) = some (v, m_mk G s') ∧ (k < m_law → G = X.2)) ∧ P v s'
def Cl (X : m_X) (d k : Nat) (As : List Value) (s : m_St) (P : Option Value → m_St → Prop) : Prop := Rn X d k 0 (m_ent k As) [] s P
theorem Rn.up {X : m_X} {d d' k pc : Nat} {L : m_L} {st : List Value} {s : m_St} {P : Option Value → m_St → Prop} (h : Rn X d k pc L st s P) (hd : d ≤ d') : Rn X d' k pc L st s P := by
  obtain ⟨n, v, s', ⟨G, h1, hG⟩, h2⟩ := h
  exact ⟨n, v, s', ⟨G, m_run_up _ _ _ _ _ _ _ _ h1 n d' (Nat.le_refl n) hd, hG⟩, h2⟩
theorem Cl.up {X : m_X} {d d' k : Nat} {As : List Value} {s : m_St} {P : Option Value → m_St → Prop} (h : Cl X d k As s P) (hd : d ≤ d') : Cl X d' k As s P := Rn.up h hd
theorem Rn.mono {X : m_X} {d k pc : Nat} {L : m_L} {st : List Value} {s : m_St} {P Q : Option Value → m_St → Prop} (h : Rn X d k pc L st s P) (hPQ : ∀ v s, P v s → Q v s) : Rn X d k pc L st s Q := by
  obtain ⟨n, v, s', h1, h2⟩ := h
  exact ⟨n, v, s', h1, hPQ _ _ h2⟩
theorem Cl.mono {X : m_X} {d k : Nat} {As : List Value} {s : m_St} {P Q : Option Value → m_St → Prop} (h : Cl X d k As s P) (hPQ : ∀ v s, P v s → Q v s) : Cl X d k As s Q := Rn.mono h hPQ
