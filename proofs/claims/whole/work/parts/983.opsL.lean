/-! calls side by side: sets, change -/
def stn (R : Int) : Nat → Int := sm (fun z => if clo R z = z then 1 else 0)
def sta (R : Int) : Nat → Int := an (fun z => if clo R z = z ∧ ¬ z = 0 then z else 15) 15
theorem sta_r (R : Int) : ∀ n : Nat, n ≤ 16 → 0 ≤ sta R n ∧ sta R n < 16 := by
  intro n
  induction n with
  | zero => intro _; exact ⟨by show (0 : Int) ≤ 15; omega, by show (15 : Int) < 16; omega⟩
  | succ n ih =>
    intro hn
    have := ih (by omega)
    show 0 ≤ iAnd (sta R n) (if clo R (n : Int) = n ∧ ¬ (n : Int) = 0 then (n : Int) else 15) ∧ iAnd (sta R n) (if clo R (n : Int) = n ∧ ¬ (n : Int) = 0 then (n : Int) else 15) < 16
    refine iAnd_r this.1 this.2 ?_ ?_
    · split <;> omega
    · split <;> omega
theorem stn_r (R : Int) : ∀ n : Nat, 0 ≤ stn R n ∧ stn R n ≤ n := by
  intro n
  induction n with
  | zero => exact ⟨by show (0 : Int) ≤ 0; omega, by show (0 : Int) ≤ 0; omega⟩
  | succ n ih =>
    unfold stn at ih ⊢
    rw [sm_s]
    have : (if clo R (n : Int) = n then (1 : Int) else 0) = 0 ∨ (if clo R (n : Int) = n then (1 : Int) else 0) = 1 := by
      split
      · exact Or.inr rfl
      · exact Or.inl rfl
    omega
theorem sta_up {R z : Int} (z0 : 0 ≤ z) : sta R (z + 1).toNat = iAnd (sta R z.toNat) (if clo R z = z ∧ ¬ z = 0 then z else 15) := an_up z0
theorem stn_up {R z : Int} (z0 : 0 ≤ z) : stn R (z + 1).toNat = stn R z.toNat + (if clo R z = z then 1 else 0) := sm_up z0
section OPL
variable {X : List Int32} {d : Nat} {s : m_St} {P : Option Value → m_St → Prop} {i h z R : Int}
theorem sets_C {Q : Int} (ht : tr (s 38 5) Q) (kk : P (some (vI (stn (s 38 5) 16))) (m_upd s 0 9 (sta (s 38 5) 16))) : Rn X (d + 1) 123 20 [some (vR 0), some (vI 0), some (vI 15), some (vI 0)] [] s P := by
  have loop : ∀ (m : Nat) (z : Int), 0 ≤ z → z + m = 16 → Rn X (d + 1) 123 20 [some (vR 0), some (vI (stn (s 38 5) z.toNat)), some (vI (sta (s 38 5) z.toNat)), some (vI z)] [] s P := by
    intro m
    induction m with
    | zero =>
      intro z z0 zm
      have : z = 16 := by omega
      subst this
      apply t_X5_sets_20 z0 <;> intros
      all_goals first | exact kk | omega
    | succ m ih =>
      intro z z0 zm
      have cr := clo_r (u := z) ht ⟨by omega, by omega⟩
      obtain ⟨cr0, cr1⟩ := cr
      have ar := sta_r (s 38 5) z.toNat (by omega)
      have nr := stn_r (s 38 5) z.toNat
      have hx := ih (z + 1) (by omega) (by omega)
      rw [stn_up z0, sta_up z0] at hx
      apply t_X5_sets_20 z0 <;> intros
      all_goals first | omega | skip
      · next g1 g2 =>
        rw [if_neg g2, if_neg (fun q => g2 q.1), iAnd_15 ar.1 ar.2, Int.add_zero] at hx
        exact hx
      · next g1 g2 g3 =>
        rw [if_pos g2, if_pos ⟨g2, g3⟩] at hx
        exact hx
      · next g1 g2 g3 =>
        rw [if_pos g2, if_neg (fun q => q.2 g3)] at hx
        exact hx
  exact loop 16 0 (by omega) (by omega)
theorem sets_M (ht : tr (s 38 5) (s 83 7)) (kk : P (some (vI (stn (s 38 5) 16))) (m_upd s 77 11 (sta (s 38 5) 16))) : Rn X (d + 2) 230 17 [some (vR 77), some (vI 0), some (vI 15), some (vI 0), none] [] s P := by
  have loop : ∀ (m : Nat) (z : Int) (z4 : Option Value), 0 ≤ z → z + m = 16 → Rn X (d + 2) 230 17 [some (vR 77), some (vI (stn (s 38 5) z.toNat)), some (vI (sta (s 38 5) z.toNat)), some (vI z), z4] [] s P := by
    intro m
    induction m with
    | zero =>
      intro z z4 z0 zm
      have : z = 16 := by omega
      subst this
      apply t_X6_sets_17 z0 <;> intros
      all_goals first | exact kk | omega
    | succ m ih =>
      intro z z4 z0 zm
      have cr := clo_r (u := z) ht ⟨by omega, by omega⟩
      obtain ⟨cr0, cr1⟩ := cr
      have ar := sta_r (s 38 5) z.toNat (by omega)
      have nr := stn_r (s 38 5) z.toNat
      have hx := fun z4 => ih (z + 1) z4 (by omega) (by omega)
      rw [stn_up z0, sta_up z0] at hx
      apply t_X6_sets_17 z0 <;> intros
      all_goals first | omega | exact ht | exact ⟨by omega, by omega⟩ | skip
      · next g1 g2 =>
        rw [if_neg g2, if_neg (fun q => g2 q.1), Int.add_zero] at hx
        exact hx _
      · next g1 g2 g3 =>
        rw [if_pos g2, if_neg (fun q => q.2 (by omega))] at hx
        exact hx _
      · next g1 g2 g3 =>
        rw [if_pos g2, if_pos ⟨g2, by omega⟩] at hx
        exact hx _
  exact loop 16 0 none (by omega) (by omega)
theorem op_sets (h : J s) : Cl X (d + 20) 123 [vR 0] s (Pw X (d + 20) 230 [vR 77]) := by
  have h7 := J_7 h
  have hv := h.v
  apply t_X5_sets <;> intros
  all_goals first | omega | skip
  · refine sets_C hv.2.2 (Pw_mk ?_)
    have e0 : m_upd s 0 9 (sta (s 38 5) 16) 83 0 = s 83 0 := upd_nc (by decide)
    have e7 : m_upd s 0 9 (sta (s 38 5) 16) 83 7 = s 83 7 := upd_nc (by decide)
    have e5 : m_upd s 0 9 (sta (s 38 5) 16) 38 5 = s 38 5 := upd_nc (by decide)
    apply t_X6_sets <;> intros
    all_goals first | omega | skip
    refine sets_M (by rw [e5, e7]; exact hv.2.2) ?_
    rw [e5]
    exact ⟨rfl, J_tell h rfl⟩
  · refine Pw_mk ?_
    apply t_X6_sets <;> intros
    all_goals first | omega | exact ⟨rfl, h⟩
theorem op_change (h : J s) (ri : inR i) : Cl X (d + 20) 124 [vR 0, vI i] s (Pw X (d + 20) 231 [vR 77, vI i]) := by
  have h7 := J_7 h
  have hv := h.v
  apply t_X5_change <;> intros
  all_goals first | exact ri | omega | skip
  · refine Pw_mk ?_
    apply t_X6_change <;> intros
    all_goals first | exact ri | omega | exact ⟨rfl, h⟩
  · refine Pw_mk ?_
    apply t_X6_change <;> intros
    all_goals first | exact ri | omega | exact ⟨rfl, h⟩
  · next i0 i1 i6 =>
    have eh := hv.h i0 (by omega)
    have hr := hset_r (fun c => s 83 (9 + 5 * i + c)) (hf (s 83 (8 + 5 * i)))
    have hr2 : 0 ≤ hld (s 83) i ∧ hld (s 83) i < 16 := hr
    rw [eh]
    refine change_C hv.2.2 hr2.1 hr2.2 (fun w hw => Pw_mk ?_)
    have e0 : m_upd s 0 9 w 83 0 = s 83 0 := upd_nc (by decide)
    have e83 : m_upd s 0 9 w 83 = s 83 := upd_fun (by decide)
    have e5 : m_upd s 0 9 w 38 5 = s 38 5 := upd_nc (by decide)
    have em : mok (m_upd s 0 9 w) := by unfold mok; rw [e83, e5]; exact hv.2
    apply t_X6_change <;> intros
    all_goals first | exact ri | omega | exact em | skip
    rw [e83]
    refine change_M em.2 hr2.1 hr2.2 (fun w' hw' => ?_)
    rw [e5] at hw'
    rw [bst2_one hw' hw]
    exact ⟨rfl, J_tell h rfl⟩
end OPL
