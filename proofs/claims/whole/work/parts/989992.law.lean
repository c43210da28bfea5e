/-! the law: call behind call, both answer alike -/
theorem cmpJ_self {a : Int} (h : inJ a) : cmpJ a a = 0 := by
  have h1 := cmpJ_p (a := a) (b := a) h h
  have h2 := cmpJ_n (a := a) (b := a) h h
  omega
section LW
variable {X : List Int32} {d : Nat} {s : m_St} {P : Option Value → m_St → Prop} {i : Int}
theorem lw_row (h : J s) (i0 : 0 ≤ i) (hi : i + 6 ≤ (X.length : Int)) (hX : X.length < 2147483648) (next : ∀ s', J s' → Rn X (d + 21) 255 18 [some (vR 1000), some (vR 0), some (vR 77), some (vI (i + 6))] [] s' P) : Cl X (d + 20) 8 [vR 0, vI (xs_ X (i + 1)), vI (xs_ X (i + 2))] s (fun v s' => Rn X (d + 21) 255 226 [some (vR 1000), some (vR 0), some (vR 77), some (vI i)] (m_push v []) s' P) := by
  refine (op_row h (inR_toInt _) (inR_toInt _)).mono (fun v s1 hP => ?_)
  obtain ⟨a, ha, hv, hc⟩ := hP
  rw [hv]
  refine t_L_law_226 i0 hX (by omega) (by omega) (by omega) (by omega) (hc.mono (fun v2 s2 h2 => ?_))
  rw [h2.1]
  exact t_L_law_240 i0 ha (fun _ => next _ h2.2) (fun z => absurd rfl z)
theorem lw_lay (h : J s) (i0 : 0 ≤ i) (hi : i + 6 ≤ (X.length : Int)) (hX : X.length < 2147483648) (next : ∀ s', J s' → Rn X (d + 21) 255 18 [some (vR 1000), some (vR 0), some (vR 77), some (vI (i + 6))] [] s' P) : Cl X (d + 20) 12 [vR 0, vI (xs_ X (i + 1)), vI (xs_ X (i + 2)), vI (xs_ X (i + 3))] s (fun v s' => Rn X (d + 21) 255 264 [some (vR 1000), some (vR 0), some (vR 77), some (vI i)] (m_push v []) s' P) := by
  refine (op_lay h (inR_toInt _) (inR_toInt _) (inR_toInt _)).mono (fun v s1 hP => ?_)
  obtain ⟨a, ha, hv, hc⟩ := hP
  rw [hv]
  refine t_L_law_264 i0 hX (by omega) (by omega) (by omega) (by omega) (by omega) (by omega) (hc.mono (fun v2 s2 h2 => ?_))
  rw [h2.1]
  exact t_L_law_283 i0 ha (fun _ => next _ h2.2) (fun z => absurd rfl z)
theorem lw_at (h : J s) (i0 : 0 ≤ i) (hi : i + 6 ≤ (X.length : Int)) (hX : X.length < 2147483648) (next : ∀ s', J s' → Rn X (d + 21) 255 18 [some (vR 1000), some (vR 0), some (vR 77), some (vI (i + 6))] [] s' P) : Cl X (d + 20) 21 [vR 0, vI (xs_ X (i + 1)), vI (xs_ X (i + 2))] s (fun v s' => Rn X (d + 21) 255 302 [some (vR 1000), some (vR 0), some (vR 77), some (vI i)] (m_push v []) s' P) := by
  refine (op_at h (inR_toInt _) (inR_toInt _)).mono (fun v s1 hP => ?_)
  obtain ⟨a, ha, hv, hc⟩ := hP
  rw [hv]
  refine t_L_law_302 i0 hX (by omega) (by omega) (by omega) (by omega) (hc.mono (fun v2 s2 h2 => ?_))
  rw [h2.1]
  exact t_L_law_316 i0 ha (fun _ => next _ h2.2) (fun z => absurd rfl z)
theorem lw_tear (h : J s) (i0 : 0 ≤ i) (hi : i + 6 ≤ (X.length : Int)) (hX : X.length < 2147483648) (next : ∀ s', J s' → Rn X (d + 21) 255 18 [some (vR 1000), some (vR 0), some (vR 77), some (vI (i + 6))] [] s' P) : Cl X (d + 20) 22 [vR 0, vI (xs_ X (i + 1))] s (fun v s' => Rn X (d + 21) 255 330 [some (vR 1000), some (vR 0), some (vR 77), some (vI i)] (m_push v []) s' P) := by
  refine (op_tear h (inR_toInt _)).mono (fun v s1 hP => ?_)
  obtain ⟨a, ha, hv, hc⟩ := hP
  rw [hv]
  refine t_L_law_330 i0 hX (by omega) (by omega) (hc.mono (fun v2 s2 h2 => ?_))
  rw [h2.1]
  exact t_L_law_339 i0 ha (fun _ => next _ h2.2) (fun z => absurd rfl z)
theorem lw_copy (h : J s) (i0 : 0 ≤ i) (hi : i + 6 ≤ (X.length : Int)) (hX : X.length < 2147483648) (next : ∀ s', J s' → Rn X (d + 21) 255 18 [some (vR 1000), some (vR 0), some (vR 77), some (vI (i + 6))] [] s' P) : Cl X (d + 20) 24 [vR 0, vI (xs_ X (i + 1)), vI (xs_ X (i + 2)), vI (xs_ X (i + 3)), vI (xs_ X (i + 4)), vI (xs_ X (i + 5))] s (fun v s' => Rn X (d + 21) 255 373 [some (vR 1000), some (vR 0), some (vR 77), some (vI i)] (m_push v []) s' P) := by
  refine (op_copy h (inR_toInt _) (inR_toInt _) (inR_toInt _) (inR_toInt _) (inR_toInt _)).mono (fun v s1 hP => ?_)
  obtain ⟨a, ha, hv, hc⟩ := hP
  rw [hv]
  refine t_L_law_373 i0 hX (by omega) (by omega) (by omega) (by omega) (by omega) (by omega) (by omega) (by omega) (by omega) (by omega) (hc.mono (fun v2 s2 h2 => ?_))
  rw [h2.1]
  exact t_L_law_402 i0 ha (fun _ => next _ h2.2) (fun z => absurd rfl z)
theorem lw_mean (h : J s) (i0 : 0 ≤ i) (hi : i + 6 ≤ (X.length : Int)) (hX : X.length < 2147483648) (next : ∀ s', J s' → Rn X (d + 21) 255 18 [some (vR 1000), some (vR 0), some (vR 77), some (vI (i + 6))] [] s' P) : Cl X (d + 20) 26 [vR 0, vI (xs_ X (i + 1))] s (fun v s' => Rn X (d + 21) 255 416 [some (vR 1000), some (vR 0), some (vR 77), some (vI i)] (m_push v []) s' P) := by
  refine (op_mean h (inR_toInt _)).mono (fun v s1 hP => ?_)
  obtain ⟨a, ha, hv, hc⟩ := hP
  rw [hv]
  refine t_L_law_416 i0 hX (by omega) (by omega) (hc.mono (fun v2 s2 h2 => ?_))
  rw [h2.1]
  exact t_L_law_425 i0 ha (fun _ => next _ h2.2) (fun z => absurd rfl z)
theorem lw_text (h : J s) (i0 : 0 ≤ i) (hi : i + 6 ≤ (X.length : Int)) (hX : X.length < 2147483648) (next : ∀ s', J s' → Rn X (d + 21) 255 18 [some (vR 1000), some (vR 0), some (vR 77), some (vI (i + 6))] [] s' P) : Cl X (d + 20) 28 [vR 0, vI (xs_ X (i + 1)), vI (xs_ X (i + 2))] s (fun v s' => Rn X (d + 21) 255 444 [some (vR 1000), some (vR 0), some (vR 77), some (vI i)] (m_push v []) s' P) := by
  refine (op_text h (inR_toInt _) (inR_toInt _)).mono (fun v s1 hP => ?_)
  obtain ⟨a, ha, hv, hc⟩ := hP
  rw [hv]
  refine t_L_law_444 i0 hX (by omega) (by omega) (by omega) (by omega) (hc.mono (fun v2 s2 h2 => ?_))
  rw [h2.1]
  exact t_L_law_458 i0 ha (fun _ => next _ h2.2) (fun z => absurd rfl z)
theorem lw_put (h : J s) (i0 : 0 ≤ i) (hi : i + 6 ≤ (X.length : Int)) (hX : X.length < 2147483648) (next : ∀ s', J s' → Rn X (d + 21) 255 18 [some (vR 1000), some (vR 0), some (vR 77), some (vI (i + 6))] [] s' P) : Cl X (d + 20) 29 [vR 0, vI (xs_ X (i + 1)), vI (xs_ X (i + 2)), vI (xs_ X (i + 3))] s (fun v s' => Rn X (d + 21) 255 482 [some (vR 1000), some (vR 0), some (vR 77), some (vI i)] (m_push v []) s' P) := by
  refine (op_put h (inR_toInt _) (inR_toInt _) (inR_toInt _)).mono (fun v s1 hP => ?_)
  obtain ⟨a, ha, hv, hc⟩ := hP
  rw [hv]
  refine t_L_law_482 i0 hX (by omega) (by omega) (by omega) (by omega) (by omega) (by omega) (hc.mono (fun v2 s2 h2 => ?_))
  rw [h2.1]
  exact t_L_law_501 i0 ha (fun _ => next _ h2.2) (fun z => absurd rfl z)
theorem lw_fault (h : J s) (i0 : 0 ≤ i) (hi : i + 6 ≤ (X.length : Int)) (hX : X.length < 2147483648) (next : ∀ s', J s' → Rn X (d + 21) 255 18 [some (vR 1000), some (vR 0), some (vR 77), some (vI (i + 6))] [] s' P) : Cl X (d + 20) 30 [vR 0, vI (xs_ X (i + 1))] s (fun v s' => Rn X (d + 21) 255 515 [some (vR 1000), some (vR 0), some (vR 77), some (vI i)] (m_push v []) s' P) := by
  refine (op_fault h (inR_toInt _)).mono (fun v s1 hP => ?_)
  obtain ⟨a, ha, hv, hc⟩ := hP
  rw [hv]
  refine t_L_law_515 i0 hX (by omega) (by omega) (hc.mono (fun v2 s2 h2 => ?_))
  rw [h2.1]
  exact t_L_law_524 i0 ha (fun _ => next _ h2.2) (fun z => absurd rfl z)
theorem lw_hut (h : J s) (i0 : 0 ≤ i) (hi : i + 6 ≤ (X.length : Int)) (hX : X.length < 2147483648) (next : ∀ s', J s' → Rn X (d + 21) 255 18 [some (vR 1000), some (vR 0), some (vR 77), some (vI (i + 6))] [] s' P) : Cl X (d + 20) 47 [vR 0, vI (xs_ X (i + 1))] s (fun v s' => Rn X (d + 21) 255 538 [some (vR 1000), some (vR 0), some (vR 77), some (vI i)] (m_push v []) s' P) := by
  refine (op_hut h (inR_toInt _)).mono (fun v s1 hP => ?_)
  obtain ⟨a, ha, hv, hc⟩ := hP
  rw [hv]
  refine t_L_law_538 i0 hX (by omega) (by omega) (hc.mono (fun v2 s2 h2 => ?_))
  rw [h2.1]
  exact t_L_law_547 i0 ha (fun _ => next _ h2.2) (fun z => absurd rfl z)
theorem lw_guest (h : J s) (i0 : 0 ≤ i) (hi : i + 6 ≤ (X.length : Int)) (hX : X.length < 2147483648) (next : ∀ s', J s' → Rn X (d + 21) 255 18 [some (vR 1000), some (vR 0), some (vR 77), some (vI (i + 6))] [] s' P) : Cl X (d + 20) 65 [vR 0, vI (xs_ X (i + 1)), vI (xs_ X (i + 2))] s (fun v s' => Rn X (d + 21) 255 566 [some (vR 1000), some (vR 0), some (vR 77), some (vI i)] (m_push v []) s' P) := by
  refine (op_guest h (inR_toInt _) (inR_toInt _)).mono (fun v s1 hP => ?_)
  obtain ⟨a, ha, hv, hc⟩ := hP
  rw [hv]
  refine t_L_law_566 i0 hX (by omega) (by omega) (by omega) (by omega) (hc.mono (fun v2 s2 h2 => ?_))
  rw [h2.1]
  exact t_L_law_580 i0 ha (fun _ => next _ h2.2) (fun z => absurd rfl z)
theorem lw_mark (h : J s) (i0 : 0 ≤ i) (hi : i + 6 ≤ (X.length : Int)) (hX : X.length < 2147483648) (next : ∀ s', J s' → Rn X (d + 21) 255 18 [some (vR 1000), some (vR 0), some (vR 77), some (vI (i + 6))] [] s' P) : Cl X (d + 20) 69 [vR 0, vI (xs_ X (i + 1)), vI (xs_ X (i + 2))] s (fun v s' => Rn X (d + 21) 255 599 [some (vR 1000), some (vR 0), some (vR 77), some (vI i)] (m_push v []) s' P) := by
  refine (op_mark h (inR_toInt _) (inR_toInt _)).mono (fun v s1 hP => ?_)
  obtain ⟨a, ha, hv, hc⟩ := hP
  rw [hv]
  refine t_L_law_599 i0 hX (by omega) (by omega) (by omega) (by omega) (hc.mono (fun v2 s2 h2 => ?_))
  rw [h2.1]
  exact t_L_law_613 i0 ha (fun _ => next _ h2.2) (fun z => absurd rfl z)
theorem lw_follows (h : J s) (i0 : 0 ≤ i) (hi : i + 6 ≤ (X.length : Int)) (hX : X.length < 2147483648) (next : ∀ s', J s' → Rn X (d + 21) 255 18 [some (vR 1000), some (vR 0), some (vR 77), some (vI (i + 6))] [] s' P) : Cl X (d + 20) 75 [vR 0, vI (xs_ X (i + 1))] s (fun v s' => Rn X (d + 21) 255 627 [some (vR 1000), some (vR 0), some (vR 77), some (vI i)] (m_push v []) s' P) := by
  refine (op_follows h (inR_toInt _)).mono (fun v s1 hP => ?_)
  obtain ⟨a, ha, hv, hc⟩ := hP
  rw [hv]
  refine t_L_law_627 i0 hX (by omega) (by omega) (hc.mono (fun v2 s2 h2 => ?_))
  rw [h2.1]
  exact t_L_law_636 i0 ha (fun _ => next _ h2.2) (fun z => absurd rfl z)
theorem lw_moved (h : J s) (i0 : 0 ≤ i) (hi : i + 6 ≤ (X.length : Int)) (hX : X.length < 2147483648) (next : ∀ s', J s' → Rn X (d + 21) 255 18 [some (vR 1000), some (vR 0), some (vR 77), some (vI (i + 6))] [] s' P) : Cl X (d + 20) 78 [vR 0, vI (xs_ X (i + 1)), vI (xs_ X (i + 2))] s (fun v s' => Rn X (d + 21) 255 655 [some (vR 1000), some (vR 0), some (vR 77), some (vI i)] (m_push v []) s' P) := by
  refine (op_moved h (inR_toInt _) (inR_toInt _)).mono (fun v s1 hP => ?_)
  obtain ⟨a, ha, hv, hc⟩ := hP
  rw [hv]
  refine t_L_law_655 i0 hX (by omega) (by omega) (by omega) (by omega) (hc.mono (fun v2 s2 h2 => ?_))
  rw [h2.1]
  exact t_L_law_669 i0 ha (fun _ => next _ h2.2) (fun z => absurd rfl z)
theorem lw_send (h : J s) (i0 : 0 ≤ i) (hi : i + 6 ≤ (X.length : Int)) (hX : X.length < 2147483648) (next : ∀ s', J s' → Rn X (d + 21) 255 18 [some (vR 1000), some (vR 0), some (vR 77), some (vI (i + 6))] [] s' P) : Cl X (d + 20) 79 [vR 0, vI (xs_ X (i + 1)), vI (xs_ X (i + 2))] s (fun v s' => Rn X (d + 21) 255 688 [some (vR 1000), some (vR 0), some (vR 77), some (vI i)] (m_push v []) s' P) := by
  refine (op_send h (inR_toInt _) (inR_toInt _)).mono (fun v s1 hP => ?_)
  obtain ⟨a, ha, hv, hc⟩ := hP
  rw [hv]
  refine t_L_law_688 i0 hX (by omega) (by omega) (by omega) (by omega) (hc.mono (fun v2 s2 h2 => ?_))
  rw [h2.1]
  exact t_L_law_702 i0 ha (fun _ => next _ h2.2) (fun z => absurd rfl z)
theorem lw_say (h : J s) (i0 : 0 ≤ i) (hi : i + 6 ≤ (X.length : Int)) (hX : X.length < 2147483648) (next : ∀ s', J s' → Rn X (d + 21) 255 18 [some (vR 1000), some (vR 0), some (vR 77), some (vI (i + 6))] [] s' P) : Cl X (d + 20) 85 [vR 0, vI (xs_ X (i + 1))] s (fun v s' => Rn X (d + 21) 255 716 [some (vR 1000), some (vR 0), some (vR 77), some (vI i)] (m_push v []) s' P) := by
  refine (op_say h (inR_toInt _)).mono (fun v s1 hP => ?_)
  obtain ⟨a, ha, hv, hc⟩ := hP
  rw [hv]
  refine t_L_law_716 i0 hX (by omega) (by omega) (hc.mono (fun v2 s2 h2 => ?_))
  rw [h2.1]
  exact t_L_law_725 i0 ha (fun _ => next _ h2.2) (fun z => absurd rfl z)
theorem lw_wood (h : J s) (i0 : 0 ≤ i) (hi : i + 6 ≤ (X.length : Int)) (hX : X.length < 2147483648) (next : ∀ s', J s' → Rn X (d + 21) 255 18 [some (vR 1000), some (vR 0), some (vR 77), some (vI (i + 6))] [] s' P) : Cl X (d + 20) 89 [vR 0] s (fun v s' => Rn X (d + 21) 255 734 [some (vR 1000), some (vR 0), some (vR 77), some (vI i)] (m_push v []) s' P) := by
  refine (op_wood h).mono (fun v s1 hP => ?_)
  obtain ⟨a, ha, hv, hc⟩ := hP
  rw [hv]
  refine t_L_law_734 i0  (hc.mono (fun v2 s2 h2 => ?_))
  rw [h2.1]
  exact t_L_law_738 i0 ha (fun _ => next _ h2.2) (fun z => absurd rfl z)
theorem lw_undo (h : J s) (i0 : 0 ≤ i) (hi : i + 6 ≤ (X.length : Int)) (hX : X.length < 2147483648) (next : ∀ s', J s' → Rn X (d + 21) 255 18 [some (vR 1000), some (vR 0), some (vR 77), some (vI (i + 6))] [] s' P) : Cl X (d + 20) 91 [vR 0, vI (xs_ X (i + 1))] s (fun v s' => Rn X (d + 21) 255 752 [some (vR 1000), some (vR 0), some (vR 77), some (vI i)] (m_push v []) s' P) := by
  refine (op_undo h (inR_toInt _)).mono (fun v s1 hP => ?_)
  obtain ⟨a, ha, hv, hc⟩ := hP
  rw [hv]
  refine t_L_law_752 i0 hX (by omega) (by omega) (hc.mono (fun v2 s2 h2 => ?_))
  rw [h2.1]
  exact t_L_law_761 i0 ha (fun _ => next _ h2.2) (fun z => absurd rfl z)
theorem lw_keep (h : J s) (i0 : 0 ≤ i) (hi : i + 6 ≤ (X.length : Int)) (hX : X.length < 2147483648) (next : ∀ s', J s' → Rn X (d + 21) 255 18 [some (vR 1000), some (vR 0), some (vR 77), some (vI (i + 6))] [] s' P) : Cl X (d + 20) 93 [vR 0, vI (xs_ X (i + 1))] s (fun v s' => Rn X (d + 21) 255 775 [some (vR 1000), some (vR 0), some (vR 77), some (vI i)] (m_push v []) s' P) := by
  refine (op_keep h (inR_toInt _)).mono (fun v s1 hP => ?_)
  obtain ⟨a, ha, hv, hc⟩ := hP
  rw [hv]
  refine t_L_law_775 i0 hX (by omega) (by omega) (hc.mono (fun v2 s2 h2 => ?_))
  rw [h2.1]
  exact t_L_law_784 i0 ha (fun _ => next _ h2.2) (fun z => absurd rfl z)
theorem lw_on (h : J s) (i0 : 0 ≤ i) (hi : i + 6 ≤ (X.length : Int)) (hX : X.length < 2147483648) (next : ∀ s', J s' → Rn X (d + 21) 255 18 [some (vR 1000), some (vR 0), some (vR 77), some (vI (i + 6))] [] s' P) : Cl X (d + 20) 95 [vR 0, vI (xs_ X (i + 1))] s (fun v s' => Rn X (d + 21) 255 798 [some (vR 1000), some (vR 0), some (vR 77), some (vI i)] (m_push v []) s' P) := by
  refine (op_on h (inR_toInt _)).mono (fun v s1 hP => ?_)
  obtain ⟨a, ha, hv, hc⟩ := hP
  rw [hv]
  refine t_L_law_798 i0 hX (by omega) (by omega) (hc.mono (fun v2 s2 h2 => ?_))
  rw [h2.1]
  exact t_L_law_807 i0 ha (fun _ => next _ h2.2) (fun z => absurd rfl z)
theorem lw_both (h : J s) (i0 : 0 ≤ i) (hi : i + 6 ≤ (X.length : Int)) (hX : X.length < 2147483648) (next : ∀ s', J s' → Rn X (d + 21) 255 18 [some (vR 1000), some (vR 0), some (vR 77), some (vI (i + 6))] [] s' P) : Cl X (d + 20) 97 [vR 0] s (fun v s' => Rn X (d + 21) 255 816 [some (vR 1000), some (vR 0), some (vR 77), some (vI i)] (m_push v []) s' P) := by
  refine (op_both h).mono (fun v s1 hP => ?_)
  obtain ⟨a, ha, hv, hc⟩ := hP
  rw [hv]
  refine t_L_law_816 i0  (hc.mono (fun v2 s2 h2 => ?_))
  rw [h2.1]
  exact t_L_law_820 i0 ha (fun _ => next _ h2.2) (fun z => absurd rfl z)
theorem lw_can (h : J s) (i0 : 0 ≤ i) (hi : i + 6 ≤ (X.length : Int)) (hX : X.length < 2147483648) (next : ∀ s', J s' → Rn X (d + 21) 255 18 [some (vR 1000), some (vR 0), some (vR 77), some (vI (i + 6))] [] s' P) : Cl X (d + 20) 104 [vR 0] s (fun v s' => Rn X (d + 21) 255 829 [some (vR 1000), some (vR 0), some (vR 77), some (vI i)] (m_push v []) s' P) := by
  refine (op_can h).mono (fun v s1 hP => ?_)
  obtain ⟨a, ha, hv, hc⟩ := hP
  rw [hv]
  refine t_L_law_829 i0  (hc.mono (fun v2 s2 h2 => ?_))
  rw [h2.1]
  exact t_L_law_833 i0 ha (fun _ => next _ h2.2) (fun z => absurd rfl z)
theorem lw_talk (h : J s) (i0 : 0 ≤ i) (hi : i + 6 ≤ (X.length : Int)) (hX : X.length < 2147483648) (next : ∀ s', J s' → Rn X (d + 21) 255 18 [some (vR 1000), some (vR 0), some (vR 77), some (vI (i + 6))] [] s' P) : Cl X (d + 20) 106 [vR 0, vI (xs_ X (i + 1))] s (fun v s' => Rn X (d + 21) 255 847 [some (vR 1000), some (vR 0), some (vR 77), some (vI i)] (m_push v []) s' P) := by
  refine (op_talk h (inR_toInt _)).mono (fun v s1 hP => ?_)
  obtain ⟨a, ha, hv, hc⟩ := hP
  rw [hv]
  refine t_L_law_847 i0 hX (by omega) (by omega) (hc.mono (fun v2 s2 h2 => ?_))
  rw [h2.1]
  exact t_L_law_856 i0 ha (fun _ => next _ h2.2) (fun z => absurd rfl z)
theorem lw_soonest (h : J s) (i0 : 0 ≤ i) (hi : i + 6 ≤ (X.length : Int)) (hX : X.length < 2147483648) (next : ∀ s', J s' → Rn X (d + 21) 255 18 [some (vR 1000), some (vR 0), some (vR 77), some (vI (i + 6))] [] s' P) : Cl X (d + 20) 110 [vR 0, vI (xs_ X (i + 1)), vI (xs_ X (i + 2))] s (fun v s' => Rn X (d + 21) 255 875 [some (vR 1000), some (vR 0), some (vR 77), some (vI i)] (m_push v []) s' P) := by
  refine (op_soonest h (inR_toInt _) (inR_toInt _)).mono (fun v s1 hP => ?_)
  obtain ⟨a, ha, hv, hc⟩ := hP
  rw [hv]
  refine t_L_law_875 i0 hX (by omega) (by omega) (by omega) (by omega) (hc.mono (fun v2 s2 h2 => ?_))
  rw [h2.1]
  exact t_L_law_889 i0 ha (fun _ => next _ h2.2) (fun z => absurd rfl z)
theorem lw_ways (h : J s) (i0 : 0 ≤ i) (hi : i + 6 ≤ (X.length : Int)) (hX : X.length < 2147483648) (next : ∀ s', J s' → Rn X (d + 21) 255 18 [some (vR 1000), some (vR 0), some (vR 77), some (vI (i + 6))] [] s' P) : Cl X (d + 20) 116 [vR 0, vI (xs_ X (i + 1)), vI (xs_ X (i + 2))] s (fun v s' => Rn X (d + 21) 255 908 [some (vR 1000), some (vR 0), some (vR 77), some (vI i)] (m_push v []) s' P) := by
  refine (op_ways h (inR_toInt _) (inR_toInt _)).mono (fun v s1 hP => ?_)
  obtain ⟨a, ha, hv, hc⟩ := hP
  rw [hv]
  refine t_L_law_908 i0 hX (by omega) (by omega) (by omega) (by omega) (hc.mono (fun v2 s2 h2 => ?_))
  rw [h2.1]
  exact t_L_law_922 i0 ha (fun _ => next _ h2.2) (fun z => absurd rfl z)
theorem lw_match (h : J s) (i0 : 0 ≤ i) (hi : i + 6 ≤ (X.length : Int)) (hX : X.length < 2147483648) (next : ∀ s', J s' → Rn X (d + 21) 255 18 [some (vR 1000), some (vR 0), some (vR 77), some (vI (i + 6))] [] s' P) : Cl X (d + 20) 122 [vR 0] s (fun v s' => Rn X (d + 21) 255 931 [some (vR 1000), some (vR 0), some (vR 77), some (vI i)] (m_push v []) s' P) := by
  refine (op_match h).mono (fun v s1 hP => ?_)
  obtain ⟨a, ha, hv, hc⟩ := hP
  rw [hv]
  refine t_L_law_931 i0  (hc.mono (fun v2 s2 h2 => ?_))
  rw [h2.1]
  exact t_L_law_935 i0 ha (fun _ => next _ h2.2) (fun z => absurd rfl z)
theorem lw_sets (h : J s) (i0 : 0 ≤ i) (hi : i + 6 ≤ (X.length : Int)) (hX : X.length < 2147483648) (next : ∀ s', J s' → Rn X (d + 21) 255 18 [some (vR 1000), some (vR 0), some (vR 77), some (vI (i + 6))] [] s' P) : Cl X (d + 20) 123 [vR 0] s (fun v s' => Rn X (d + 21) 255 944 [some (vR 1000), some (vR 0), some (vR 77), some (vI i)] (m_push v []) s' P) := by
  refine (op_sets h).mono (fun v s1 hP => ?_)
  obtain ⟨a, ha, hv, hc⟩ := hP
  rw [hv]
  refine t_L_law_944 i0  (hc.mono (fun v2 s2 h2 => ?_))
  rw [h2.1]
  exact t_L_law_948 i0 ha (fun _ => next _ h2.2) (fun z => absurd rfl z)
theorem lw_change (h : J s) (i0 : 0 ≤ i) (hi : i + 6 ≤ (X.length : Int)) (hX : X.length < 2147483648) (next : ∀ s', J s' → Rn X (d + 21) 255 18 [some (vR 1000), some (vR 0), some (vR 77), some (vI (i + 6))] [] s' P) : Cl X (d + 20) 124 [vR 0, vI (xs_ X (i + 1))] s (fun v s' => Rn X (d + 21) 255 962 [some (vR 1000), some (vR 0), some (vR 77), some (vI i)] (m_push v []) s' P) := by
  refine (op_change h (inR_toInt _)).mono (fun v s1 hP => ?_)
  obtain ⟨a, ha, hv, hc⟩ := hP
  rw [hv]
  refine t_L_law_962 i0 hX (by omega) (by omega) (hc.mono (fun v2 s2 h2 => ?_))
  rw [h2.1]
  exact t_L_law_971 i0 ha (fun _ => next _ h2.2) (fun z => absurd rfl z)
theorem lw_kinds (h : J s) (i0 : 0 ≤ i) (hi : i + 6 ≤ (X.length : Int)) (hX : X.length < 2147483648) (next : ∀ s', J s' → Rn X (d + 21) 255 18 [some (vR 1000), some (vR 0), some (vR 77), some (vI (i + 6))] [] s' P) : Cl X (d + 20) 125 [vR 0, vI (xs_ X (i + 1)), vI (xs_ X (i + 2))] s (fun v s' => Rn X (d + 21) 255 990 [some (vR 1000), some (vR 0), some (vR 77), some (vI i)] (m_push v []) s' P) := by
  refine (op_kinds h (inR_toInt _) (inR_toInt _)).mono (fun v s1 hP => ?_)
  obtain ⟨a, ha, hv, hc⟩ := hP
  rw [hv]
  refine t_L_law_990 i0 hX (by omega) (by omega) (by omega) (by omega) (hc.mono (fun v2 s2 h2 => ?_))
  rw [h2.1]
  exact t_L_law_1004 i0 ha (fun _ => next _ h2.2) (fun z => absurd rfl z)
theorem lw_test (h : J s) (i0 : 0 ≤ i) (hi : i + 6 ≤ (X.length : Int)) (hX : X.length < 2147483648) (next : ∀ s', J s' → Rn X (d + 21) 255 18 [some (vR 1000), some (vR 0), some (vR 77), some (vI (i + 6))] [] s' P) : Cl X (d + 20) 129 [vR 0, vI (xs_ X (i + 1)), vI (xs_ X (i + 2))] s (fun v s' => Rn X (d + 21) 255 1023 [some (vR 1000), some (vR 0), some (vR 77), some (vI i)] (m_push v []) s' P) := by
  refine (op_test h (inR_toInt _) (inR_toInt _)).mono (fun v s1 hP => ?_)
  obtain ⟨a, ha, hv, hc⟩ := hP
  rw [hv]
  refine t_L_law_1023 i0 hX (by omega) (by omega) (by omega) (by omega) (hc.mono (fun v2 s2 h2 => ?_))
  rw [h2.1]
  exact t_L_law_1037 i0 ha (fun _ => next _ h2.2) (fun z => absurd rfl z)
theorem lw_duel (h : J s) (i0 : 0 ≤ i) (hi : i + 6 ≤ (X.length : Int)) (hX : X.length < 2147483648) (next : ∀ s', J s' → Rn X (d + 21) 255 18 [some (vR 1000), some (vR 0), some (vR 77), some (vI (i + 6))] [] s' P) : Cl X (d + 20) 132 [vR 0, vI (xs_ X (i + 1))] s (fun v s' => Rn X (d + 21) 255 1051 [some (vR 1000), some (vR 0), some (vR 77), some (vI i)] (m_push v []) s' P) := by
  refine (op_duel h (inR_toInt _)).mono (fun v s1 hP => ?_)
  obtain ⟨a, ha, hv, hc⟩ := hP
  rw [hv]
  refine t_L_law_1051 i0 hX (by omega) (by omega) (hc.mono (fun v2 s2 h2 => ?_))
  rw [h2.1]
  exact t_L_law_1060 i0 ha (fun _ => next _ h2.2) (fun z => absurd rfl z)
theorem lw_odds (h : J s) (i0 : 0 ≤ i) (hi : i + 6 ≤ (X.length : Int)) (hX : X.length < 2147483648) (next : ∀ s', J s' → Rn X (d + 21) 255 18 [some (vR 1000), some (vR 0), some (vR 77), some (vI (i + 6))] [] s' P) : Cl X (d + 20) 135 [vR 0, vI (xs_ X (i + 1)), vI (xs_ X (i + 2)), vI (xs_ X (i + 3))] s (fun v s' => Rn X (d + 21) 255 1084 [some (vR 1000), some (vR 0), some (vR 77), some (vI i)] (m_push v []) s' P) := by
  refine (op_odds h (inR_toInt _) (inR_toInt _) (inR_toInt _)).mono (fun v s1 hP => ?_)
  obtain ⟨a, ha, hv, hc⟩ := hP
  rw [hv]
  refine t_L_law_1084 i0 hX (by omega) (by omega) (by omega) (by omega) (by omega) (by omega) (hc.mono (fun v2 s2 h2 => ?_))
  rw [h2.1]
  exact t_L_law_1103 i0 ha (fun _ => next _ h2.2) (fun z => absurd rfl z)
theorem lw_mid (h : J s) (i0 : 0 ≤ i) (hi : i + 6 ≤ (X.length : Int)) (hX : X.length < 2147483648) (next : ∀ s', J s' → Rn X (d + 21) 255 18 [some (vR 1000), some (vR 0), some (vR 77), some (vI (i + 6))] [] s' P) : Cl X (d + 20) 142 [vR 0, vI (xs_ X (i + 1)), vI (xs_ X (i + 2))] s (fun v s' => Rn X (d + 21) 255 1122 [some (vR 1000), some (vR 0), some (vR 77), some (vI i)] (m_push v []) s' P) := by
  refine (op_mid h (inR_toInt _) (inR_toInt _)).mono (fun v s1 hP => ?_)
  obtain ⟨a, ha, hv, hc⟩ := hP
  rw [hv]
  refine t_L_law_1122 i0 hX (by omega) (by omega) (by omega) (by omega) (hc.mono (fun v2 s2 h2 => ?_))
  rw [h2.1]
  exact t_L_law_1136 i0 ha (fun _ => next _ h2.2) (fun z => absurd rfl z)
theorem lw_lots (h : J s) (i0 : 0 ≤ i) (hi : i + 6 ≤ (X.length : Int)) (hX : X.length < 2147483648) (next : ∀ s', J s' → Rn X (d + 21) 255 18 [some (vR 1000), some (vR 0), some (vR 77), some (vI (i + 6))] [] s' P) : Cl X (d + 20) 143 [vR 0, vI (xs_ X (i + 1)), vI (xs_ X (i + 2))] s (fun v s' => Rn X (d + 21) 255 1155 [some (vR 1000), some (vR 0), some (vR 77), some (vI i)] (m_push v []) s' P) := by
  refine (op_lots h (inR_toInt _) (inR_toInt _)).mono (fun v s1 hP => ?_)
  obtain ⟨a, ha, hv, hc⟩ := hP
  rw [hv]
  refine t_L_law_1155 i0 hX (by omega) (by omega) (by omega) (by omega) (hc.mono (fun v2 s2 h2 => ?_))
  rw [h2.1]
  exact t_L_law_1169 i0 ha (fun _ => next _ h2.2) (fun z => absurd rfl z)
theorem lw_asked (h : J s) (i0 : 0 ≤ i) (hi : i + 6 ≤ (X.length : Int)) (hX : X.length < 2147483648) (next : ∀ s', J s' → Rn X (d + 21) 255 18 [some (vR 1000), some (vR 0), some (vR 77), some (vI (i + 6))] [] s' P) : Cl X (d + 20) 144 [vR 0] s (fun v s' => Rn X (d + 21) 255 1178 [some (vR 1000), some (vR 0), some (vR 77), some (vI i)] (m_push v []) s' P) := by
  refine (op_asked h).mono (fun v s1 hP => ?_)
  obtain ⟨a, ha, hv, hc⟩ := hP
  rw [hv]
  refine t_L_law_1178 i0  (hc.mono (fun v2 s2 h2 => ?_))
  rw [h2.1]
  exact t_L_law_1182 i0 ha (fun _ => next _ h2.2) (fun z => absurd rfl z)
theorem lw_upper (h : J s) (i0 : 0 ≤ i) (hi : i + 6 ≤ (X.length : Int)) (hX : X.length < 2147483648) (next : ∀ s', J s' → Rn X (d + 21) 255 18 [some (vR 1000), some (vR 0), some (vR 77), some (vI (i + 6))] [] s' P) : Cl X (d + 20) 145 [vR 0] s (fun v s' => Rn X (d + 21) 255 1191 [some (vR 1000), some (vR 0), some (vR 77), some (vI i)] (m_push v []) s' P) := by
  refine (op_upper h).mono (fun v s1 hP => ?_)
  obtain ⟨a, ha, hv, hc⟩ := hP
  rw [hv]
  refine t_L_law_1191 i0  (hc.mono (fun v2 s2 h2 => ?_))
  rw [h2.1]
  exact t_L_law_1195 i0 (fun _ => next _ h2.2) (fun z => absurd (cmpJ_self ha) z)
theorem lw_lower (h : J s) (i0 : 0 ≤ i) (hi : i + 6 ≤ (X.length : Int)) (hX : X.length < 2147483648) (next : ∀ s', J s' → Rn X (d + 21) 255 18 [some (vR 1000), some (vR 0), some (vR 77), some (vI (i + 6))] [] s' P) : Cl X (d + 20) 146 [vR 0] s (fun v s' => Rn X (d + 21) 255 1205 [some (vR 1000), some (vR 0), some (vR 77), some (vI i)] (m_push v []) s' P) := by
  refine (op_lower h).mono (fun v s1 hP => ?_)
  obtain ⟨a, ha, hv, hc⟩ := hP
  rw [hv]
  refine t_L_law_1205 i0  (hc.mono (fun v2 s2 h2 => ?_))
  rw [h2.1]
  exact t_L_law_1209 i0 (fun _ => next _ h2.2) (fun z => absurd (cmpJ_self ha) z)
theorem lw_count (h : J s) (i0 : 0 ≤ i) (hi : i + 6 ≤ (X.length : Int)) (hX : X.length < 2147483648) (next : ∀ s', J s' → Rn X (d + 21) 255 18 [some (vR 1000), some (vR 0), some (vR 77), some (vI (i + 6))] [] s' P) : Cl X (d + 20) 147 [vR 0, vI (xs_ X (i + 1))] s (fun v s' => Rn X (d + 21) 255 1224 [some (vR 1000), some (vR 0), some (vR 77), some (vI i)] (m_push v []) s' P) := by
  refine (op_count h (inR_toInt _)).mono (fun v s1 hP => ?_)
  obtain ⟨a, ha, hv, hc⟩ := hP
  rw [hv]
  refine t_L_law_1224 i0 hX (by omega) (by omega) (hc.mono (fun v2 s2 h2 => ?_))
  rw [h2.1]
  exact t_L_law_1233 i0 ha (fun _ => next _ h2.2) (fun z => absurd rfl z)
theorem lw_finding (h : J s) (i0 : 0 ≤ i) (hi : i + 6 ≤ (X.length : Int)) (hX : X.length < 2147483648) (next : ∀ s', J s' → Rn X (d + 21) 255 18 [some (vR 1000), some (vR 0), some (vR 77), some (vI (i + 6))] [] s' P) : Cl X (d + 20) 153 [vR 0] s (fun v s' => Rn X (d + 21) 255 1242 [some (vR 1000), some (vR 0), some (vR 77), some (vI i)] (m_push v []) s' P) := by
  refine (op_finding h).mono (fun v s1 hP => ?_)
  obtain ⟨a, ha, hv, hc⟩ := hP
  rw [hv]
  refine t_L_law_1242 i0  (hc.mono (fun v2 s2 h2 => ?_))
  rw [h2.1]
  exact t_L_law_1246 i0 ha (fun _ => next _ h2.2) (fun z => absurd rfl z)
theorem lw_findings (h : J s) (i0 : 0 ≤ i) (hi : i + 6 ≤ (X.length : Int)) (hX : X.length < 2147483648) (next : ∀ s', J s' → Rn X (d + 21) 255 18 [some (vR 1000), some (vR 0), some (vR 77), some (vI (i + 6))] [] s' P) : Cl X (d + 20) 154 [vR 0, vI (xs_ X (i + 1))] s (fun v s' => Rn X (d + 21) 255 1260 [some (vR 1000), some (vR 0), some (vR 77), some (vI i)] (m_push v []) s' P) := by
  refine (op_findings h (inR_toInt _)).mono (fun v s1 hP => ?_)
  obtain ⟨a, ha, hv, hc⟩ := hP
  rw [hv]
  refine t_L_law_1260 i0 hX (by omega) (by omega) (hc.mono (fun v2 s2 h2 => ?_))
  rw [h2.1]
  exact t_L_law_1269 i0 ha (fun _ => next _ h2.2) (fun z => absurd rfl z)
theorem lw_digest (h : J s) (i0 : 0 ≤ i) (hi : i + 6 ≤ (X.length : Int)) (hX : X.length < 2147483648) (next : ∀ s', J s' → Rn X (d + 21) 255 18 [some (vR 1000), some (vR 0), some (vR 77), some (vI (i + 6))] [] s' P) : Cl X (d + 20) 155 [vR 0] s (fun v s' => Rn X (d + 21) 255 1278 [some (vR 1000), some (vR 0), some (vR 77), some (vI i)] (m_push v []) s' P) := by
  refine (op_digest h).mono (fun v s1 hP => ?_)
  obtain ⟨a, ha, hv, hc⟩ := hP
  rw [hv]
  refine t_L_law_1278 i0  (hc.mono (fun v2 s2 h2 => ?_))
  rw [h2.1]
  exact t_L_law_1282 i0 (fun _ => next _ h2.2) (fun z => absurd (cmpJ_self ha) z)
theorem law_loop (hX : X.length ≤ 3072) : ∀ (m : Nat) (i : Int) (s : m_St), 0 ≤ i → i ≤ 3072 → (X.length : Int) - i ≤ 6 * m → J s → Rn X (d + 21) 255 18 [some (vR 1000), some (vR 0), some (vR 77), some (vI i)] [] s (fun v _ => v = some (vI 1)) := by
  have hX2 : X.length < 2147483648 := by omega
  intro m
  induction m with
  | zero =>
    intro i s i0 i1 hm h
    have e : (X.length : Int) - 6 < i := by omega
    apply t_L_law_18 i0 hX2 <;> intros
    all_goals first | rfl | omega
  | succ m ih =>
    intro i s i0 i1 hm h
    by_cases hi : i + 6 ≤ (X.length : Int)
    · have next : ∀ s', J s' → Rn X (d + 21) 255 18 [some (vR 1000), some (vR 0), some (vR 77), some (vI (i + 6))] [] s' (fun v _ => v = some (vI 1)) := fun s' h' => ih (i + 6) s' (by omega) (by omega) (by omega) h'
      clear ih
      apply t_L_law_18 i0 hX2 <;> intros
      all_goals first | (clear next; omega) | exact lw_row h i0 hi hX2 next | exact lw_lay h i0 hi hX2 next | exact lw_at h i0 hi hX2 next | exact lw_tear h i0 hi hX2 next | exact lw_copy h i0 hi hX2 next | exact lw_mean h i0 hi hX2 next | exact lw_text h i0 hi hX2 next | exact lw_put h i0 hi hX2 next | exact lw_fault h i0 hi hX2 next | exact lw_hut h i0 hi hX2 next | exact lw_guest h i0 hi hX2 next | exact lw_mark h i0 hi hX2 next | exact lw_follows h i0 hi hX2 next | exact lw_moved h i0 hi hX2 next | exact lw_send h i0 hi hX2 next | exact lw_say h i0 hi hX2 next | exact lw_wood h i0 hi hX2 next | exact lw_undo h i0 hi hX2 next | exact lw_keep h i0 hi hX2 next | exact lw_on h i0 hi hX2 next | exact lw_both h i0 hi hX2 next | exact lw_can h i0 hi hX2 next | exact lw_talk h i0 hi hX2 next | exact lw_soonest h i0 hi hX2 next | exact lw_ways h i0 hi hX2 next | exact lw_match h i0 hi hX2 next | exact lw_sets h i0 hi hX2 next | exact lw_change h i0 hi hX2 next | exact lw_kinds h i0 hi hX2 next | exact lw_test h i0 hi hX2 next | exact lw_duel h i0 hi hX2 next | exact lw_odds h i0 hi hX2 next | exact lw_mid h i0 hi hX2 next | exact lw_lots h i0 hi hX2 next | exact lw_asked h i0 hi hX2 next | exact lw_upper h i0 hi hX2 next | exact lw_lower h i0 hi hX2 next | exact lw_count h i0 hi hX2 next | exact lw_finding h i0 hi hX2 next | exact lw_findings h i0 hi hX2 next | exact lw_digest h i0 hi hX2 next | exact next _ h
    · have e : (X.length : Int) - 6 < i := by omega
      apply t_L_law_18 i0 hX2 <;> intros
      all_goals first | rfl | omega
end LW
