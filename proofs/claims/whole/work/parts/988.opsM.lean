/-! calls side by side: who one is -/
theorem J_rwk {s : m_St} (h : J s) : ∀ r, 0 ≤ r → r < 6 → rwk s r := fun r r0 r6 => by
  obtain ⟨a1, a2, a3, a4⟩ := h.1.2 r r0 r6
  exact ⟨a1, a2, fun j j0 j1 => (a4 j j0 j1).1⟩
theorem J_rwM {s t : m_St} (h : J s) (e8 : ∀ j, t 78 j = s 78 j) (e9 : ∀ j, t 79 j = s 79 j) : ∀ r, 0 ≤ r → r < 6 → rwM t r := fun r r0 r6 => by
  obtain ⟨a1, a2, a3, a4⟩ := h.1.2 r r0 r6
  unfold rwM
  rw [e8, a3]
  refine ⟨a1, a2, fun j j0 j1 => ?_⟩
  rw [e9, (a4 j j0 j1).2]
  exact (a4 j j0 j1).1
theorem J_atr {s t : m_St} {r : Int} (h : J s) (r0 : 0 ≤ r) (r6 : r < 6) (z3 : s 2 r % 3 = 0) (e8 : ∀ j, t 78 j = s 78 j) (e9 : ∀ j, t 79 j = s 79 j) : atr s r ↔ atM t r := by
  obtain ⟨a1, a2, a3, a4⟩ := h.1.2 r r0 r6
  unfold atr atM
  rw [e8, a3]
  have e : ∀ j, 0 ≤ j → j < s 2 r → j % 3 = 0 → t 79 (40 * r + j) = s (4 + r) j ∧ t 79 (40 * r + j + 1) = s (4 + r) (j + 1) ∧ t 79 (40 * r + j + 2) = s (4 + r) (j + 2) := fun j j0 j1 j3 => by
    rw [e9, e9, e9, show 40 * r + j + 1 = 40 * r + (j + 1) by omega, show 40 * r + j + 2 = 40 * r + (j + 2) by omega]
    exact ⟨(a4 j j0 j1).2, (a4 (j + 1) (by omega) (by omega)).2, (a4 (j + 2) (by omega) (by omega)).2⟩
  constructor
  · intro ha j j0 j1 j3
    obtain ⟨x1, x2, x3⟩ := e j j0 j1 j3
    rw [x1, x2, x3]
    exact ha j j0 j1 j3
  · intro ha j j0 j1 j3
    have := ha j j0 j1 j3
    obtain ⟨x1, x2, x3⟩ := e j j0 j1 j3
    rw [x1, x2, x3] at this
    exact this
theorem J_fiA {s : m_St} {i r k : Int} (h : J s) (i0 : 0 ≤ i) (i1 : i < s 83 0) (r0 : 0 ≤ r) (r6 : r < 6) (z3 : s 2 r % 3 = 0) : fiA s i r k ↔ fiM s i r k := by
  obtain ⟨a1, a2, a3, a4⟩ := h.1.2 r r0 r6
  have hw := (h.v.1.2.2.2.2.2.2 i i0 i1).2
  unfold fiA fiM
  rw [a3]
  have e : ∀ j, 0 ≤ j → j < s 2 r → j % 3 = 0 → (fitp s i r k j ↔ fitM s i r k j) := fun j j0 j1 j3 => by
    unfold fitp fitM
    rw [show 40 * r + j + 1 = 40 * r + (j + 1) by omega, show 40 * r + j + 2 = 40 * r + (j + 2) by omega, (a4 j j0 j1).2, (a4 (j + 1) (by omega) (by omega)).2, (a4 (j + 2) (by omega) (by omega)).2]
    rw [hset_cong (f := fun c => if c = s (4 + r) j then s (4 + r) (j + 1) else s (44 + 4 * i + 1) c) (f' := fun c => if c = s (4 + r) j then s (4 + r) (j + 1) else s 83 (9 + 5 * i + c)) (fun c c0 c1 => by rw [hw c c0 c1])]
  constructor
  · intro ha j j0 j1 j3
    exact (e j j0 j1 j3).mp (ha j j0 j1 j3)
  · intro ha j j0 j1 j3
    exact (e j j0 j1 j3).mpr (ha j j0 j1 j3)
theorem J_mva {s : m_St} {i c k : Int} (h : J s) (i0 : 0 ≤ i) (i1 : i < s 83 0) : mva s i c k = mvM s i c k := by
  have hw := (h.v.1.2.2.2.2.2.2 i i0 i1).2
  unfold mva mvM
  rw [hset_cong (f' := fun x => s 83 (9 + 5 * i + x)) (fun c c0 c1 => hw c c0 c1)]
theorem J_74 {s t : m_St} (h : J s) (e : fr74 s t) : J t := J_scr h (fun c j h1 _ _ _ _ => e c j (by omega)) (tkok_cong (fun c j h1 h2 => e c j (by omega)) h.2.2.2.2.2.2.1) (fun i => by rw [e 72 i (by omega)]; exact h.2.2.2.2.2.2.2 i)
theorem J_80 {s t : m_St} (h : J s) (e : fr80 s t) : J t := J_scr h (fun c j _ h2 _ _ _ => e c j h2) (tkok_cong (fun c j h1 h2 => e c j (by omega)) h.2.2.2.2.2.2.1) (fun i => by rw [e 72 i (by omega)]; exact h.2.2.2.2.2.2.2 i)
theorem bar_no {s s1 s' : m_St} {i r v1 v : Int} (h : J s) (hq : qTp s i r v1 s1) (hv : ¬ v1 = 0) (hb : qBa s1 i r v s') : v = v1 ∧ J s' := by
  have h7 := J_7 h
  have hr := Jr_b (r := r) h
  rcases hq with ⟨q1, _⟩ | ⟨q1, q2, q3⟩ | ⟨q1, i0, i1, r0, r6, q2⟩
  · exact absurd q1 hv
  · subst q2
    rcases hb with ⟨b1, b2, b3⟩ | ⟨b1, b2, b3⟩ | ⟨b1, b3⟩
    · exfalso; omega
    · exact ⟨by omega, by rw [b2]; exact h⟩
    · exfalso; omega
  · have hr := hr r0 r6
    have fz : ∀ f, fnd s f 83 0 = s 83 0 := fun f => fnd_o (by decide) (by decide)
    have f78 : ∀ f j, fnd s f 78 j = s 78 j := fun f j => fnd_o (by decide) (by decide)
    have f79 : ∀ f j, fnd s f 79 j = s 79 j := fun f j => fnd_o (by decide) (by decide)
    rcases q2 with ⟨q2, q3⟩ | ⟨q2, q3, q4⟩ | ⟨q2, q3, q4, q5⟩
    · subst q2
      have z8 := f78 1 r
      have z0 := fz 1
      rcases hb with ⟨b1, b2, b3⟩ | ⟨b1, b2, b3⟩ | ⟨b1, b3, b4, b5, b6, b7⟩
      · exfalso; omega
      · exfalso; omega
      · rcases b7 with ⟨b7, _⟩ | ⟨_, b8, _⟩ | ⟨_, b8, _⟩
        · exact ⟨by omega, by rw [b7]; exact J_fnd h (by decide) (by decide)⟩
        · exfalso; omega
        · exfalso; omega
    · subst q2
      have z8 := f78 5 r
      have z0 := fz 5
      rcases hb with ⟨b1, b2, b3⟩ | ⟨b1, b2, b3⟩ | ⟨b1, b3, b4, b5, b6, b7⟩
      · exfalso; omega
      · exfalso; omega
      · rcases b7 with ⟨_, b8⟩ | ⟨b7, _, _⟩ | ⟨_, b8, b9, _⟩
        · exfalso; omega
        · exact ⟨by omega, by rw [b7]; exact J_fnd h (by decide) (by decide)⟩
        · exfalso; omega
    · subst q2
      have z8 := f78 3 r
      have z0 := fz 3
      have ha := J_atr (t := fnd s 3) h r0 r6 q4 (f78 3) (f79 3)
      rcases hb with ⟨b1, b2, b3, b4, b5, b6, b7, b8, b9⟩ | ⟨b1, b2, b3⟩ | ⟨b1, b3, b4, b5, b6, b7⟩
      · exact absurd (ha.mpr b9) q5
      · exfalso; omega
      · rcases b7 with ⟨_, b8⟩ | ⟨_, b8, b9⟩ | ⟨b7, _, _⟩
        · exfalso; omega
        · exfalso; omega
        · exact ⟨by omega, by rw [b7]; exact J_fnd h (by decide) (by decide)⟩
theorem bar_yes {s s3 s' : m_St} {i r v : Int} (h : J s) (hq : qTp s i r 0 s) (hf : fr74 s s3) (hb : qBa s3 i r v s') : v = 0 ∧ s' = s3 ∧ 0 ≤ i ∧ i < s 83 0 ∧ 0 ≤ r ∧ r < 6 ∧ 0 ≤ s 78 r ∧ s 78 r ≤ 40 ∧ s 78 r % 3 = 0 ∧ s 2 r = s 78 r ∧ atM s3 r := by
  have h7 := J_7 h
  have hr := Jr_b (r := r) h
  have e8 : ∀ j, s3 78 j = s 78 j := fun j => hf 78 j (by omega)
  have e9 : ∀ j, s3 79 j = s 79 j := fun j => hf 79 j (by omega)
  have z8 := e8 r
  have z0 : s3 83 0 = s 83 0 := hf 83 0 (by omega)
  rcases hq with ⟨_, _, i0, i1, r0, r6, q2, q3, q4⟩ | ⟨q1, q2, q3⟩ | ⟨q1, _⟩
  · have hr := hr r0 r6
    have ha := J_atr (t := s3) h r0 r6 q3 e8 e9
    rcases hb with ⟨b1, b2, b3, b4, b5, b6, b7, b8, b9⟩ | ⟨b1, b2, b3⟩ | ⟨b1, b3, b4, b5, b6, b7⟩
    · exact ⟨b1, b2, i0, by omega, r0, r6, by omega, by omega, by omega, by omega, b9⟩
    · exfalso; omega
    · exfalso
      rcases b7 with ⟨_, b8⟩ | ⟨_, b8, b9⟩ | ⟨b7, _, _, b8⟩
      · omega
      · omega
      · exact b8 (ha.mp q4)
  · omega
  · omega
/-- the first that moves least alike -/
def amn (g : Int → Int) : Nat → Int
  | 0 => 0
  | n + 1 => if g ((n : Int) + 1) < g (amn g n) then (n : Int) + 1 else amn g n
theorem amn_r {g : Int → Int} : ∀ n : Nat, 0 ≤ amn g n ∧ amn g n ≤ n := by
  intro n
  induction n with
  | zero => exact ⟨by show (0 : Int) ≤ 0; omega, by show (0 : Int) ≤ 0; omega⟩
  | succ n ih =>
    unfold amn
    split <;> omega
section OPM
variable {X : List Int32} {d : Nat} {s : m_St} {P : Option Value → m_St → Prop} {i r b : Int}
theorem qTp_0 {s1 : m_St} {v1 : Int} (h : qTp s i r v1 s1) (hv : v1 = 0) : s1 = s ∧ qTp s i r 0 s ∧ 0 ≤ i ∧ i < s 38 3 ∧ 0 ≤ r ∧ r < 6 ∧ 0 ≤ s 2 r ∧ s 2 r % 3 = 0 ∧ atr s r := by
  rcases h with ⟨q1, q2, q3⟩ | ⟨q1, q2, q3⟩ | ⟨q1, q3⟩
  · exact ⟨q2, Or.inl ⟨rfl, rfl, q3⟩, q3⟩
  · omega
  · omega
theorem qBa_inR {s1 : m_St} {v1 : Int} (h : qBa s i r v1 s1) : inR v1 := by
  rcases h with ⟨q1, _⟩ | ⟨q1, _⟩ | ⟨q1, _⟩ <;> omega
theorem qTp_inR {s1 : m_St} {v1 : Int} (h : qTp s i r v1 s1) : inR v1 := by
  rcases h with ⟨q1, _⟩ | ⟨q1, _⟩ | ⟨q1, _⟩ <;> omega
theorem fr80_mok {a t : m_St} (h : mok a) (e : fr80 a t) : mok t := by
  have e83 : t 83 = a 83 := funext fun j => e 83 j (by decide)
  unfold mok
  rw [e83, e 38 5 (by decide)]
  exact h
theorem kbs_cong {F G : Int → Int} (n : Nat) (h : ∀ k, F k = G k) : kbs F n = kbs G n := by rw [show F = G from funext h]
theorem op_kinds (h : J s) (ri : inR i) (rr : inR r) : Cl X (d + 20) 125 [vR 0, vI i, vI r] s (Pw X (d + 20) 233 [vR 77, vI i, vI r]) := by
  have h7 := J_7 h
  have hrk := J_rwk h
  have hg := h.v.1.2.2.2.2.2.1
  have kz : ∀ (F : Int → Int) (n : Nat), inR (kbs F n) := fun F n => by
    induction n with
    | zero => exact inR_0
    | succ n ih2 =>
      show inR (if _ = 0 then _ else _)
      split
      · exact ih2
      · exact inR_iOr _ _
  apply t_X5_kinds <;> intros
  all_goals first | exact ri | exact rr | exact hrk _ (by assumption) (by assumption) | omega | skip
  all_goals first | (next v1 s1 q => exact qTp_inR q) | skip
  all_goals first | (next v1 s1 q hv => exact (qTp_0 q hv).2.2.1) | (next v1 s1 q hv => exact (qTp_0 q hv).2.2.2.2.1) | (next v1 s1 q hv => exact (qTp_0 q hv).2.2.2.2.2.1) | (next v1 s1 q hv => have := (qTp_0 q hv).2.2.2.1; omega) | skip
  · next v1 s1 q hv =>
    obtain ⟨q1, q2, q3⟩ := qTp_0 q hv
    subst q1
    exact hg i q3.1 (by have := q3.2.1; omega)
  · next v1 s1 q hv =>
    obtain ⟨q1, q2, q3⟩ := qTp_0 q hv
    subst q1
    exact hrk r q3.2.2.1 q3.2.2.2.1
  · next v1 s1 q hv =>
    obtain ⟨q1, q2, q3⟩ := qTp_0 q hv
    subst q1
    exact q3.2.2.2.2.1
  · next v1 s1 q hv =>
    obtain ⟨q1, q2, q3⟩ := qTp_0 q hv
    subst q1
    exact q3.2.2.2.2.2.1
  · next v1 s1 q hv =>
    obtain ⟨q1, q2, q3⟩ := qTp_0 q hv
    subst q1
    exact q3.2.2.2.2.2.2
  · next v1 s1 q hv v3 s3 q3 =>
    obtain ⟨q1, q2, _⟩ := qTp_0 q hv
    subst q1
    obtain ⟨q3, hf⟩ := q3
    have J3 := J_74 h hf
    have h73 := J_7 J3
    have e0 : s3 83 0 = s1 83 0 := hf 83 0 (by omega)
    refine Pw_mk ?_
    apply t_X6_kinds <;> intros
    all_goals first | exact ri | exact rr | exact J_rwM J3 (fun _ => rfl) (fun _ => rfl) _ (by assumption) (by assumption) | omega | skip
    all_goals first | (next v s' hb => exact qBa_inR hb) | skip
    all_goals first | (next v s' hb hv0 => exact absurd (bar_yes h q2 hf hb).1 hv0) | skip
    all_goals first | (next v s' hb hv0 v4 s4 h4 =>
                        obtain ⟨b1, b2, i0, i1, r0, r6, z0, z4, z3, z2, ba⟩ := bar_yes h q2 hf hb
                        subst b2
                        obtain ⟨h4, hf4⟩ := h4
                        refine ⟨?_, J_80 J3 hf4⟩
                        rw [h4, q3]
                        rw [kbs_cong 6 (fun k => pb_iff ((fiA_fr i0 (by omega) r0 r6 hf).symm.trans (J_fiA (k := k) J3 i0 (by omega) r0 r6 (by rw [hf 2 r (by omega)]; omega))))]) | skip
    all_goals (next v s' hb hv0 =>
                obtain ⟨b1, b2, i0, i1, r0, r6, z0, z4, z3, z2, ba⟩ := bar_yes h q2 hf hb
                subst b2
                have e8 := hf 78 r (by omega)
                first | exact J3.v.2 | exact ba | omega)
  · next v1 s1 q hv =>
    have fz : s1 83 0 = s 83 0 ∧ (∀ j, s1 78 j = s 78 j) ∧ (∀ j, s1 79 j = s 79 j) := by
      rcases q with ⟨_, q2, _⟩ | ⟨_, q2, _⟩ | ⟨_, _, _, _, _, q2⟩
      · rw [q2]; exact ⟨rfl, fun _ => rfl, fun _ => rfl⟩
      · rw [q2]; exact ⟨rfl, fun _ => rfl, fun _ => rfl⟩
      · rcases q2 with ⟨q2, _⟩ | ⟨q2, _⟩ | ⟨q2, _⟩
        all_goals (rw [q2]; exact ⟨fnd_o (by decide) (by decide), fun _ => fnd_o (by decide) (by decide), fun _ => fnd_o (by decide) (by decide)⟩)
    obtain ⟨fz0, fz8, fz9⟩ := fz
    refine Pw_mk ?_
    apply t_X6_kinds <;> intros
    all_goals first | exact ri | exact rr | exact J_rwM h fz8 fz9 _ (by assumption) (by assumption) | omega | skip
    all_goals first | (next v s' hb => exact qBa_inR hb) | skip
    all_goals first | (next v s' hb hv0 => exact absurd ((bar_no h q hv hb).1.symm.trans hv0) hv) | skip
    all_goals first | (next v s' hb hv0 =>
                        obtain ⟨b1, b2⟩ := bar_no h q hv hb
                        exact ⟨by rw [b1], b2⟩) | skip
    all_goals (next v s' hb hv0 v4 s4 h4 => exact absurd ((bar_no h q hv hb).1.symm.trans hv0) hv)
end OPM
