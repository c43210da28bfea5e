/-! the reference: who holds what, by how much one is moved -/
def mok (s : m_St) : Prop := hok (s 83) ∧ tr (s 38 5) (s 83 7)
theorem mok.g {s : m_St} {i : Int} (h : mok s) (i0 : 0 ≤ i) (i1 : i < s 83 0) : i < 6 ∧ 0 ≤ s 83 (8 + 5 * i) ∧ s 83 (8 + 5 * i) < 6 ∧ ∀ c, 0 ≤ c → c < 4 → 0 ≤ s 83 (9 + 5 * i + c) ∧ s 83 (9 + 5 * i + c) ≤ 20 := by
  obtain ⟨a1, a2, a3, a4, a5, a6, a7, a8, a9, a10, a11, a12⟩ := h.1
  exact ⟨by omega, a12 i i0 i1⟩
theorem hld_at {h : Int → Int} {i p : Int} (hp : p = 9 + 5 * i) : hset (fun c => h (p + c)) (hf (h (8 + 5 * i))) = hld h i := by subst hp; rfl
section SPHA
variable {X : List Int32} {d : Nat} {s : m_St} {P : Option Value → m_St → Prop} {i c : Int}
theorem sp_holdsM (h : mok s) (i0 : 0 ≤ i) (i1 : i < s 83 0) (kk : P (some (vI (hld (s 83) i))) s) : Cl X (d + 2) 186 [vR 77, vI i] s P := by
  obtain ⟨i6, k0, k6, hw⟩ := h.g i0 i1
  refine t_X6_holds i0 i6 (by omega) (by omega) (by omega) (by omega) (by omega) (fun c c0 c1 => ?_) (PI kk (hld_at (by omega)).symm)
  have := hw c c0 c1
  rw [show 9 + 5 * i + c = 8 + 5 * i + 1 + c by omega] at this
  show inR (s 83 _)
  omega
theorem sp_movedOf (h : mok s) (i0 : 0 ≤ i) (i1 : i < s 83 0) (c0 : 0 ≤ c) (c4 : c < 4) (kk : P (some (vI (mv (s 83 (8 + 5 * i)) (hld (s 83) i) (s 38 5) c))) s) : Cl X (d + 3) 192 [vR 77, vI i, vI c] s P := by
  obtain ⟨i6, k0, k6, hw⟩ := h.g i0 i1
  have hr := hset_r (fun c => s 83 (8 + 5 * i + 1 + c)) (hf (s 83 (8 + 5 * i)))
  refine t_X6_movedOf i0 i6 (by omega) (by omega) (by omega) (by omega) (by omega) (fun c c0 c1 => ?_) h.2 k0 k6 hr.1 hr.2 c0 c4 (PI kk (by rw [hld_at (by omega)]))
  have := hw c c0 c1
  rw [show 9 + 5 * i + c = 8 + 5 * i + 1 + c by omega] at this
  show inR (s 83 _)
  omega
end SPHA
